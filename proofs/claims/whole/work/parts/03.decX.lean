theorem dX0_init_0 : decode cX0_init 0 = .ok (.aload_n 0, 1) := by decide +kernel
theorem dX0_init_1 : decode cX0_init 1 = .ok (.invokespecial 3, 3) := by decide +kernel
theorem dX0_init_4 : decode cX0_init 4 = .ok (.aload_n 0, 1) := by decide +kernel
theorem dX0_init_5 : decode cX0_init 5 = .ok (.new 9, 3) := by decide +kernel
theorem dX0_init_8 : decode cX0_init 8 = .ok (.dup, 1) := by decide +kernel
theorem dX0_init_9 : decode cX0_init 9 = .ok (.bipush 14, 2) := by decide +kernel
theorem dX0_init_11 : decode cX0_init 11 = .ok (.invokespecial 11, 3) := by decide +kernel
theorem dX0_init_14 : decode cX0_init 14 = .ok (.putfield 14, 3) := by decide +kernel
theorem dX0_init_17 : decode cX0_init 17 = .ok (.return_, 1) := by decide +kernel
theorem dX0_count_0 : decode cX0_count 0 = .ok (.aload_n 0, 1) := by decide +kernel
theorem dX0_count_1 : decode cX0_count 1 = .ok (.getfield 20, 3) := by decide +kernel
theorem dX0_count_4 : decode cX0_count 4 = .ok (.ireturn, 1) := by decide +kernel
theorem dX0_forgetAll_0 : decode cX0_forgetAll 0 = .ok (.aload_n 0, 1) := by decide +kernel
theorem dX0_forgetAll_1 : decode cX0_forgetAll 1 = .ok (.iconst 0, 1) := by decide +kernel
theorem dX0_forgetAll_2 : decode cX0_forgetAll 2 = .ok (.putfield 20, 3) := by decide +kernel
theorem dX0_forgetAll_5 : decode cX0_forgetAll 5 = .ok (.return_, 1) := by decide +kernel
theorem dX0_remember_0 : decode cX0_remember 0 = .ok (.aload_n 0, 1) := by decide +kernel
theorem dX0_remember_1 : decode cX0_remember 1 = .ok (.getfield 20, 3) := by decide +kernel
theorem dX0_remember_4 : decode cX0_remember 4 = .ok (.bipush 14, 2) := by decide +kernel
theorem dX0_remember_6 : decode cX0_remember 6 = .ok (.if_icmp .ne 26, 3) := by decide +kernel
theorem dX0_remember_9 : decode cX0_remember 9 = .ok (.aload_n 0, 1) := by decide +kernel
theorem dX0_remember_10 : decode cX0_remember 10 = .ok (.aload_n 0, 1) := by decide +kernel
theorem dX0_remember_11 : decode cX0_remember 11 = .ok (.getfield 24, 3) := by decide +kernel
theorem dX0_remember_14 : decode cX0_remember 14 = .ok (.iconst 1, 1) := by decide +kernel
theorem dX0_remember_15 : decode cX0_remember 15 = .ok (.iadd, 1) := by decide +kernel
theorem dX0_remember_16 : decode cX0_remember 16 = .ok (.bipush 14, 2) := by decide +kernel
theorem dX0_remember_18 : decode cX0_remember 18 = .ok (.irem, 1) := by decide +kernel
theorem dX0_remember_19 : decode cX0_remember 19 = .ok (.putfield 24, 3) := by decide +kernel
theorem dX0_remember_22 : decode cX0_remember 22 = .ok (.aload_n 0, 1) := by decide +kernel
theorem dX0_remember_23 : decode cX0_remember 23 = .ok (.dup, 1) := by decide +kernel
theorem dX0_remember_24 : decode cX0_remember 24 = .ok (.getfield 20, 3) := by decide +kernel
theorem dX0_remember_27 : decode cX0_remember 27 = .ok (.iconst 1, 1) := by decide +kernel
theorem dX0_remember_28 : decode cX0_remember 28 = .ok (.isub, 1) := by decide +kernel
theorem dX0_remember_29 : decode cX0_remember 29 = .ok (.putfield 20, 3) := by decide +kernel
theorem dX0_remember_32 : decode cX0_remember 32 = .ok (.aload_n 0, 1) := by decide +kernel
theorem dX0_remember_33 : decode cX0_remember 33 = .ok (.getfield 14, 3) := by decide +kernel
theorem dX0_remember_36 : decode cX0_remember 36 = .ok (.aload_n 0, 1) := by decide +kernel
theorem dX0_remember_37 : decode cX0_remember 37 = .ok (.getfield 24, 3) := by decide +kernel
theorem dX0_remember_40 : decode cX0_remember 40 = .ok (.aload_n 0, 1) := by decide +kernel
theorem dX0_remember_41 : decode cX0_remember 41 = .ok (.getfield 20, 3) := by decide +kernel
theorem dX0_remember_44 : decode cX0_remember 44 = .ok (.iadd, 1) := by decide +kernel
theorem dX0_remember_45 : decode cX0_remember 45 = .ok (.bipush 14, 2) := by decide +kernel
theorem dX0_remember_47 : decode cX0_remember 47 = .ok (.irem, 1) := by decide +kernel
theorem dX0_remember_48 : decode cX0_remember 48 = .ok (.aload_n 1, 1) := by decide +kernel
theorem dX0_remember_49 : decode cX0_remember 49 = .ok (.invokevirtual 27, 3) := by decide +kernel
theorem dX0_remember_52 : decode cX0_remember 52 = .ok (.aload_n 0, 1) := by decide +kernel
theorem dX0_remember_53 : decode cX0_remember 53 = .ok (.dup, 1) := by decide +kernel
theorem dX0_remember_54 : decode cX0_remember 54 = .ok (.getfield 20, 3) := by decide +kernel
theorem dX0_remember_57 : decode cX0_remember 57 = .ok (.iconst 1, 1) := by decide +kernel
theorem dX0_remember_58 : decode cX0_remember 58 = .ok (.iadd, 1) := by decide +kernel
theorem dX0_remember_59 : decode cX0_remember 59 = .ok (.putfield 20, 3) := by decide +kernel
theorem dX0_remember_62 : decode cX0_remember 62 = .ok (.return_, 1) := by decide +kernel
theorem dX0_takeBack_0 : decode cX0_takeBack 0 = .ok (.aload_n 0, 1) := by decide +kernel
theorem dX0_takeBack_1 : decode cX0_takeBack 1 = .ok (.getfield 20, 3) := by decide +kernel
theorem dX0_takeBack_4 : decode cX0_takeBack 4 = .ok (.ifCond .ne 5, 3) := by decide +kernel
theorem dX0_takeBack_7 : decode cX0_takeBack 7 = .ok (.iconst 0, 1) := by decide +kernel
theorem dX0_takeBack_8 : decode cX0_takeBack 8 = .ok (.ireturn, 1) := by decide +kernel
theorem dX0_takeBack_9 : decode cX0_takeBack 9 = .ok (.aload_n 0, 1) := by decide +kernel
theorem dX0_takeBack_10 : decode cX0_takeBack 10 = .ok (.dup, 1) := by decide +kernel
theorem dX0_takeBack_11 : decode cX0_takeBack 11 = .ok (.getfield 20, 3) := by decide +kernel
theorem dX0_takeBack_14 : decode cX0_takeBack 14 = .ok (.iconst 1, 1) := by decide +kernel
theorem dX0_takeBack_15 : decode cX0_takeBack 15 = .ok (.isub, 1) := by decide +kernel
theorem dX0_takeBack_16 : decode cX0_takeBack 16 = .ok (.putfield 20, 3) := by decide +kernel
theorem dX0_takeBack_19 : decode cX0_takeBack 19 = .ok (.aload_n 0, 1) := by decide +kernel
theorem dX0_takeBack_20 : decode cX0_takeBack 20 = .ok (.getfield 14, 3) := by decide +kernel
theorem dX0_takeBack_23 : decode cX0_takeBack 23 = .ok (.aload_n 0, 1) := by decide +kernel
theorem dX0_takeBack_24 : decode cX0_takeBack 24 = .ok (.getfield 24, 3) := by decide +kernel
theorem dX0_takeBack_27 : decode cX0_takeBack 27 = .ok (.aload_n 0, 1) := by decide +kernel
theorem dX0_takeBack_28 : decode cX0_takeBack 28 = .ok (.getfield 20, 3) := by decide +kernel
theorem dX0_takeBack_31 : decode cX0_takeBack 31 = .ok (.iadd, 1) := by decide +kernel
theorem dX0_takeBack_32 : decode cX0_takeBack 32 = .ok (.bipush 14, 2) := by decide +kernel
theorem dX0_takeBack_34 : decode cX0_takeBack 34 = .ok (.irem, 1) := by decide +kernel
theorem dX0_takeBack_35 : decode cX0_takeBack 35 = .ok (.aload_n 1, 1) := by decide +kernel
theorem dX0_takeBack_36 : decode cX0_takeBack 36 = .ok (.invokevirtual 31, 3) := by decide +kernel
theorem dX0_takeBack_39 : decode cX0_takeBack 39 = .ok (.iconst 1, 1) := by decide +kernel
theorem dX0_takeBack_40 : decode cX0_takeBack 40 = .ok (.ireturn, 1) := by decide +kernel
theorem dX1_init_0 : decode cX1_init 0 = .ok (.aload_n 0, 1) := by decide +kernel
theorem dX1_init_1 : decode cX1_init 1 = .ok (.invokespecial 3, 3) := by decide +kernel
theorem dX1_init_4 : decode cX1_init 4 = .ok (.aload_n 0, 1) := by decide +kernel
theorem dX1_init_5 : decode cX1_init 5 = .ok (.bipush 61, 2) := by decide +kernel
theorem dX1_init_7 : decode cX1_init 7 = .ok (.newarray .long, 2) := by decide +kernel
theorem dX1_init_9 : decode cX1_init 9 = .ok (.putfield 9, 3) := by decide +kernel
theorem dX1_init_12 : decode cX1_init 12 = .ok (.return_, 1) := by decide +kernel
theorem dX1_count_0 : decode cX1_count 0 = .ok (.iconst 0, 1) := by decide +kernel
theorem dX1_count_1 : decode cX1_count 1 = .ok (.istore_n 3, 1) := by decide +kernel
theorem dX1_count_2 : decode cX1_count 2 = .ok (.iload_n 3, 1) := by decide +kernel
theorem dX1_count_3 : decode cX1_count 3 = .ok (.aload_n 0, 1) := by decide +kernel
theorem dX1_count_4 : decode cX1_count 4 = .ok (.getfield 9, 3) := by decide +kernel
theorem dX1_count_7 : decode cX1_count 7 = .ok (.arraylength, 1) := by decide +kernel
theorem dX1_count_8 : decode cX1_count 8 = .ok (.if_icmp .ge 39, 3) := by decide +kernel
theorem dX1_count_11 : decode cX1_count 11 = .ok (.aload_n 0, 1) := by decide +kernel
theorem dX1_count_12 : decode cX1_count 12 = .ok (.getfield 9, 3) := by decide +kernel
theorem dX1_count_15 : decode cX1_count 15 = .ok (.iload_n 3, 1) := by decide +kernel
theorem dX1_count_16 : decode cX1_count 16 = .ok (.iload_n 3, 1) := by decide +kernel
theorem dX1_count_17 : decode cX1_count 17 = .ok (.iload_n 1, 1) := by decide +kernel
theorem dX1_count_18 : decode cX1_count 18 = .ok (.if_icmp .ge 7, 3) := by decide +kernel
theorem dX1_count_21 : decode cX1_count 21 = .ok (.lconst 1, 1) := by decide +kernel
theorem dX1_count_22 : decode cX1_count 22 = .ok (.goto 18, 3) := by decide +kernel
theorem dX1_count_25 : decode cX1_count 25 = .ok (.aload_n 0, 1) := by decide +kernel
theorem dX1_count_26 : decode cX1_count 26 = .ok (.iload_n 3, 1) := by decide +kernel
theorem dX1_count_27 : decode cX1_count 27 = .ok (.iload_n 1, 1) := by decide +kernel
theorem dX1_count_28 : decode cX1_count 28 = .ok (.isub, 1) := by decide +kernel
theorem dX1_count_29 : decode cX1_count 29 = .ok (.invokevirtual 15, 3) := by decide +kernel
theorem dX1_count_32 : decode cX1_count 32 = .ok (.aload_n 0, 1) := by decide +kernel
theorem dX1_count_33 : decode cX1_count 33 = .ok (.iload_n 3, 1) := by decide +kernel
theorem dX1_count_34 : decode cX1_count 34 = .ok (.iload_n 2, 1) := by decide +kernel
theorem dX1_count_35 : decode cX1_count 35 = .ok (.isub, 1) := by decide +kernel
theorem dX1_count_36 : decode cX1_count 36 = .ok (.invokevirtual 15, 3) := by decide +kernel
theorem dX1_count_39 : decode cX1_count 39 = .ok (.ladd, 1) := by decide +kernel
theorem dX1_count_40 : decode cX1_count 40 = .ok (.lastore, 1) := by decide +kernel
theorem dX1_count_41 : decode cX1_count 41 = .ok (.iinc 3 1, 3) := by decide +kernel
theorem dX1_count_44 : decode cX1_count 44 = .ok (.goto (-42), 3) := by decide +kernel
theorem dX1_count_47 : decode cX1_count 47 = .ok (.return_, 1) := by decide +kernel
theorem dX1_by_0 : decode cX1_by 0 = .ok (.iload_n 1, 1) := by decide +kernel
theorem dX1_by_1 : decode cX1_by 1 = .ok (.ifCond .lt 21, 3) := by decide +kernel
theorem dX1_by_4 : decode cX1_by 4 = .ok (.iload_n 1, 1) := by decide +kernel
theorem dX1_by_5 : decode cX1_by 5 = .ok (.aload_n 0, 1) := by decide +kernel
theorem dX1_by_6 : decode cX1_by 6 = .ok (.getfield 9, 3) := by decide +kernel
theorem dX1_by_9 : decode cX1_by 9 = .ok (.arraylength, 1) := by decide +kernel
theorem dX1_by_10 : decode cX1_by 10 = .ok (.if_icmp .ge 12, 3) := by decide +kernel
theorem dX1_by_13 : decode cX1_by 13 = .ok (.aload_n 0, 1) := by decide +kernel
theorem dX1_by_14 : decode cX1_by 14 = .ok (.getfield 9, 3) := by decide +kernel
theorem dX1_by_17 : decode cX1_by 17 = .ok (.iload_n 1, 1) := by decide +kernel
theorem dX1_by_18 : decode cX1_by 18 = .ok (.laload, 1) := by decide +kernel
theorem dX1_by_19 : decode cX1_by 19 = .ok (.goto 4, 3) := by decide +kernel
theorem dX1_by_22 : decode cX1_by 22 = .ok (.lconst 1, 1) := by decide +kernel
theorem dX1_by_23 : decode cX1_by 23 = .ok (.lreturn, 1) := by decide +kernel
theorem dX2_init_0 : decode cX2_init 0 = .ok (.aload_n 0, 1) := by decide +kernel
theorem dX2_init_1 : decode cX2_init 1 = .ok (.invokespecial 3, 3) := by decide +kernel
theorem dX2_init_4 : decode cX2_init 4 = .ok (.aload_n 0, 1) := by decide +kernel
theorem dX2_init_5 : decode cX2_init 5 = .ok (.bipush 6, 2) := by decide +kernel
theorem dX2_init_7 : decode cX2_init 7 = .ok (.newarray .int, 2) := by decide +kernel
theorem dX2_init_9 : decode cX2_init 9 = .ok (.putfield 9, 3) := by decide +kernel
theorem dX2_init_12 : decode cX2_init 12 = .ok (.aload_n 0, 1) := by decide +kernel
theorem dX2_init_13 : decode cX2_init 13 = .ok (.bipush 6, 2) := by decide +kernel
theorem dX2_init_15 : decode cX2_init 15 = .ok (.newarray .int, 2) := by decide +kernel
theorem dX2_init_17 : decode cX2_init 17 = .ok (.putfield 15, 3) := by decide +kernel
theorem dX2_init_20 : decode cX2_init 20 = .ok (.return_, 1) := by decide +kernel
theorem dX2_count_0 : decode cX2_count 0 = .ok (.aload_n 0, 1) := by decide +kernel
theorem dX2_count_1 : decode cX2_count 1 = .ok (.getfield 18, 3) := by decide +kernel
theorem dX2_count_4 : decode cX2_count 4 = .ok (.ireturn, 1) := by decide +kernel
theorem dX2_forgetAll_0 : decode cX2_forgetAll 0 = .ok (.aload_n 0, 1) := by decide +kernel
theorem dX2_forgetAll_1 : decode cX2_forgetAll 1 = .ok (.iconst 0, 1) := by decide +kernel
theorem dX2_forgetAll_2 : decode cX2_forgetAll 2 = .ok (.putfield 18, 3) := by decide +kernel
theorem dX2_forgetAll_5 : decode cX2_forgetAll 5 = .ok (.return_, 1) := by decide +kernel
theorem dX2_add_0 : decode cX2_add 0 = .ok (.aload_n 0, 1) := by decide +kernel
theorem dX2_add_1 : decode cX2_add 1 = .ok (.getfield 18, 3) := by decide +kernel
theorem dX2_add_4 : decode cX2_add 4 = .ok (.bipush 6, 2) := by decide +kernel
theorem dX2_add_6 : decode cX2_add 6 = .ok (.if_icmp .lt 5, 3) := by decide +kernel
theorem dX2_add_9 : decode cX2_add 9 = .ok (.iconst 0, 1) := by decide +kernel
theorem dX2_add_10 : decode cX2_add 10 = .ok (.ireturn, 1) := by decide +kernel
theorem dX2_add_11 : decode cX2_add 11 = .ok (.aload_n 0, 1) := by decide +kernel
theorem dX2_add_12 : decode cX2_add 12 = .ok (.getfield 9, 3) := by decide +kernel
theorem dX2_add_15 : decode cX2_add 15 = .ok (.aload_n 0, 1) := by decide +kernel
theorem dX2_add_16 : decode cX2_add 16 = .ok (.getfield 18, 3) := by decide +kernel
theorem dX2_add_19 : decode cX2_add 19 = .ok (.iload_n 1, 1) := by decide +kernel
theorem dX2_add_20 : decode cX2_add 20 = .ok (.invokestatic 22, 3) := by decide +kernel
theorem dX2_add_23 : decode cX2_add 23 = .ok (.aload_n 0, 1) := by decide +kernel
theorem dX2_add_24 : decode cX2_add 24 = .ok (.getfield 15, 3) := by decide +kernel
theorem dX2_add_27 : decode cX2_add 27 = .ok (.aload_n 0, 1) := by decide +kernel
theorem dX2_add_28 : decode cX2_add 28 = .ok (.getfield 18, 3) := by decide +kernel
theorem dX2_add_31 : decode cX2_add 31 = .ok (.iload_n 2, 1) := by decide +kernel
theorem dX2_add_32 : decode cX2_add 32 = .ok (.invokestatic 22, 3) := by decide +kernel
theorem dX2_add_35 : decode cX2_add 35 = .ok (.aload_n 0, 1) := by decide +kernel
theorem dX2_add_36 : decode cX2_add 36 = .ok (.dup, 1) := by decide +kernel
theorem dX2_add_37 : decode cX2_add 37 = .ok (.getfield 18, 3) := by decide +kernel
theorem dX2_add_40 : decode cX2_add 40 = .ok (.iconst 1, 1) := by decide +kernel
theorem dX2_add_41 : decode cX2_add 41 = .ok (.iadd, 1) := by decide +kernel
theorem dX2_add_42 : decode cX2_add 42 = .ok (.putfield 18, 3) := by decide +kernel
theorem dX2_add_45 : decode cX2_add 45 = .ok (.iconst 1, 1) := by decide +kernel
theorem dX2_add_46 : decode cX2_add 46 = .ok (.ireturn, 1) := by decide +kernel
theorem dX2_isSo_0 : decode cX2_isSo 0 = .ok (.iconst 0, 1) := by decide +kernel
theorem dX2_isSo_1 : decode cX2_isSo 1 = .ok (.istore_n 3, 1) := by decide +kernel
theorem dX2_isSo_2 : decode cX2_isSo 2 = .ok (.iload_n 3, 1) := by decide +kernel
theorem dX2_isSo_3 : decode cX2_isSo 3 = .ok (.aload_n 0, 1) := by decide +kernel
theorem dX2_isSo_4 : decode cX2_isSo 4 = .ok (.getfield 18, 3) := by decide +kernel
theorem dX2_isSo_7 : decode cX2_isSo 7 = .ok (.if_icmp .ge 48, 3) := by decide +kernel
theorem dX2_isSo_10 : decode cX2_isSo 10 = .ok (.aload_n 0, 1) := by decide +kernel
theorem dX2_isSo_11 : decode cX2_isSo 11 = .ok (.getfield 9, 3) := by decide +kernel
theorem dX2_isSo_14 : decode cX2_isSo 14 = .ok (.iload_n 3, 1) := by decide +kernel
theorem dX2_isSo_15 : decode cX2_isSo 15 = .ok (.invokestatic 26, 3) := by decide +kernel
theorem dX2_isSo_18 : decode cX2_isSo 18 = .ok (.istore 4, 2) := by decide +kernel
theorem dX2_isSo_20 : decode cX2_isSo 20 = .ok (.aload_n 1, 1) := by decide +kernel
theorem dX2_isSo_21 : decode cX2_isSo 21 = .ok (.iload 4, 2) := by decide +kernel
theorem dX2_isSo_23 : decode cX2_isSo 23 = .ok (.invokevirtual 30, 3) := by decide +kernel
theorem dX2_isSo_26 : decode cX2_isSo 26 = .ok (.ifCond .eq 23, 3) := by decide +kernel
theorem dX2_isSo_29 : decode cX2_isSo 29 = .ok (.aload_n 2, 1) := by decide +kernel
theorem dX2_isSo_30 : decode cX2_isSo 30 = .ok (.iload 4, 2) := by decide +kernel
theorem dX2_isSo_32 : decode cX2_isSo 32 = .ok (.iconst 0, 1) := by decide +kernel
theorem dX2_isSo_33 : decode cX2_isSo 33 = .ok (.invokevirtual 36, 3) := by decide +kernel
theorem dX2_isSo_36 : decode cX2_isSo 36 = .ok (.aload_n 0, 1) := by decide +kernel
theorem dX2_isSo_37 : decode cX2_isSo 37 = .ok (.getfield 15, 3) := by decide +kernel
theorem dX2_isSo_40 : decode cX2_isSo 40 = .ok (.iload_n 3, 1) := by decide +kernel
theorem dX2_isSo_41 : decode cX2_isSo 41 = .ok (.invokestatic 26, 3) := by decide +kernel
theorem dX2_isSo_44 : decode cX2_isSo 44 = .ok (.if_icmp .eq 5, 3) := by decide +kernel
theorem dX2_isSo_47 : decode cX2_isSo 47 = .ok (.iconst 0, 1) := by decide +kernel
theorem dX2_isSo_48 : decode cX2_isSo 48 = .ok (.ireturn, 1) := by decide +kernel
theorem dX2_isSo_49 : decode cX2_isSo 49 = .ok (.iinc 3 1, 3) := by decide +kernel
theorem dX2_isSo_52 : decode cX2_isSo 52 = .ok (.goto (-50), 3) := by decide +kernel
theorem dX2_isSo_55 : decode cX2_isSo 55 = .ok (.iconst 1, 1) := by decide +kernel
theorem dX2_isSo_56 : decode cX2_isSo 56 = .ok (.ireturn, 1) := by decide +kernel
theorem dX3_init_0 : decode cX3_init 0 = .ok (.aload_n 0, 1) := by decide +kernel
theorem dX3_init_1 : decode cX3_init 1 = .ok (.invokespecial 1, 3) := by decide +kernel
theorem dX3_init_4 : decode cX3_init 4 = .ok (.aload_n 0, 1) := by decide +kernel
theorem dX3_init_5 : decode cX3_init 5 = .ok (.iload_n 1, 1) := by decide +kernel
theorem dX3_init_6 : decode cX3_init 6 = .ok (.iconst 0, 1) := by decide +kernel
theorem dX3_init_7 : decode cX3_init 7 = .ok (.invokestatic 7, 3) := by decide +kernel
theorem dX3_init_10 : decode cX3_init 10 = .ok (.anewarray 13, 3) := by decide +kernel
theorem dX3_init_13 : decode cX3_init 13 = .ok (.putfield 15, 3) := by decide +kernel
theorem dX3_init_16 : decode cX3_init 16 = .ok (.iconst 0, 1) := by decide +kernel
theorem dX3_init_17 : decode cX3_init 17 = .ok (.istore_n 2, 1) := by decide +kernel
theorem dX3_init_18 : decode cX3_init 18 = .ok (.iload_n 2, 1) := by decide +kernel
theorem dX3_init_19 : decode cX3_init 19 = .ok (.aload_n 0, 1) := by decide +kernel
theorem dX3_init_20 : decode cX3_init 20 = .ok (.getfield 15, 3) := by decide +kernel
theorem dX3_init_23 : decode cX3_init 23 = .ok (.arraylength, 1) := by decide +kernel
theorem dX3_init_24 : decode cX3_init 24 = .ok (.if_icmp .ge 22, 3) := by decide +kernel
theorem dX3_init_27 : decode cX3_init 27 = .ok (.aload_n 0, 1) := by decide +kernel
theorem dX3_init_28 : decode cX3_init 28 = .ok (.getfield 15, 3) := by decide +kernel
theorem dX3_init_31 : decode cX3_init 31 = .ok (.iload_n 2, 1) := by decide +kernel
theorem dX3_init_32 : decode cX3_init 32 = .ok (.new 13, 3) := by decide +kernel
theorem dX3_init_35 : decode cX3_init 35 = .ok (.dup, 1) := by decide +kernel
theorem dX3_init_36 : decode cX3_init 36 = .ok (.invokespecial 21, 3) := by decide +kernel
theorem dX3_init_39 : decode cX3_init 39 = .ok (.aastore, 1) := by decide +kernel
theorem dX3_init_40 : decode cX3_init 40 = .ok (.iinc 2 1, 3) := by decide +kernel
theorem dX3_init_43 : decode cX3_init 43 = .ok (.goto (-25), 3) := by decide +kernel
theorem dX3_init_46 : decode cX3_init 46 = .ok (.return_, 1) := by decide +kernel
theorem dX3_store_0 : decode cX3_store 0 = .ok (.aload_n 0, 1) := by decide +kernel
theorem dX3_store_1 : decode cX3_store 1 = .ok (.iload_n 1, 1) := by decide +kernel
theorem dX3_store_2 : decode cX3_store 2 = .ok (.invokevirtual 22, 3) := by decide +kernel
theorem dX3_store_5 : decode cX3_store 5 = .ok (.astore_n 3, 1) := by decide +kernel
theorem dX3_store_6 : decode cX3_store 6 = .ok (.aload_n 3, 1) := by decide +kernel
theorem dX3_store_7 : decode cX3_store 7 = .ok (.ifnull 8, 3) := by decide +kernel
theorem dX3_store_10 : decode cX3_store 10 = .ok (.aload_n 3, 1) := by decide +kernel
theorem dX3_store_11 : decode cX3_store 11 = .ok (.aload_n 2, 1) := by decide +kernel
theorem dX3_store_12 : decode cX3_store 12 = .ok (.invokevirtual 26, 3) := by decide +kernel
theorem dX3_store_15 : decode cX3_store 15 = .ok (.return_, 1) := by decide +kernel
theorem dX3_bring_0 : decode cX3_bring 0 = .ok (.aload_n 0, 1) := by decide +kernel
theorem dX3_bring_1 : decode cX3_bring 1 = .ok (.iload_n 1, 1) := by decide +kernel
theorem dX3_bring_2 : decode cX3_bring 2 = .ok (.invokevirtual 22, 3) := by decide +kernel
theorem dX3_bring_5 : decode cX3_bring 5 = .ok (.astore_n 3, 1) := by decide +kernel
theorem dX3_bring_6 : decode cX3_bring 6 = .ok (.aload_n 3, 1) := by decide +kernel
theorem dX3_bring_7 : decode cX3_bring 7 = .ok (.ifnull 8, 3) := by decide +kernel
theorem dX3_bring_10 : decode cX3_bring 10 = .ok (.aload_n 2, 1) := by decide +kernel
theorem dX3_bring_11 : decode cX3_bring 11 = .ok (.aload_n 3, 1) := by decide +kernel
theorem dX3_bring_12 : decode cX3_bring 12 = .ok (.invokevirtual 26, 3) := by decide +kernel
theorem dX3_bring_15 : decode cX3_bring 15 = .ok (.return_, 1) := by decide +kernel
theorem dX3_placeAt_0 : decode cX3_placeAt 0 = .ok (.iload_n 1, 1) := by decide +kernel
theorem dX3_placeAt_1 : decode cX3_placeAt 1 = .ok (.ifCond .lt 21, 3) := by decide +kernel
theorem dX3_placeAt_4 : decode cX3_placeAt 4 = .ok (.iload_n 1, 1) := by decide +kernel
theorem dX3_placeAt_5 : decode cX3_placeAt 5 = .ok (.aload_n 0, 1) := by decide +kernel
theorem dX3_placeAt_6 : decode cX3_placeAt 6 = .ok (.getfield 15, 3) := by decide +kernel
theorem dX3_placeAt_9 : decode cX3_placeAt 9 = .ok (.arraylength, 1) := by decide +kernel
theorem dX3_placeAt_10 : decode cX3_placeAt 10 = .ok (.if_icmp .ge 12, 3) := by decide +kernel
theorem dX3_placeAt_13 : decode cX3_placeAt 13 = .ok (.aload_n 0, 1) := by decide +kernel
theorem dX3_placeAt_14 : decode cX3_placeAt 14 = .ok (.getfield 15, 3) := by decide +kernel
theorem dX3_placeAt_17 : decode cX3_placeAt 17 = .ok (.iload_n 1, 1) := by decide +kernel
theorem dX3_placeAt_18 : decode cX3_placeAt 18 = .ok (.aaload, 1) := by decide +kernel
theorem dX3_placeAt_19 : decode cX3_placeAt 19 = .ok (.goto 4, 3) := by decide +kernel
theorem dX3_placeAt_22 : decode cX3_placeAt 22 = .ok (.aconst_null, 1) := by decide +kernel
theorem dX3_placeAt_23 : decode cX3_placeAt 23 = .ok (.areturn, 1) := by decide +kernel
theorem dX4_init_0 : decode cX4_init 0 = .ok (.aload_n 0, 1) := by decide +kernel
theorem dX4_init_1 : decode cX4_init 1 = .ok (.invokespecial 3, 3) := by decide +kernel
theorem dX4_init_4 : decode cX4_init 4 = .ok (.aload_n 0, 1) := by decide +kernel
theorem dX4_init_5 : decode cX4_init 5 = .ok (.new 9, 3) := by decide +kernel
theorem dX4_init_8 : decode cX4_init 8 = .ok (.dup, 1) := by decide +kernel
theorem dX4_init_9 : decode cX4_init 9 = .ok (.iconst 2, 1) := by decide +kernel
theorem dX4_init_10 : decode cX4_init 10 = .ok (.invokespecial 11, 3) := by decide +kernel
theorem dX4_init_13 : decode cX4_init 13 = .ok (.putfield 14, 3) := by decide +kernel
theorem dX4_init_16 : decode cX4_init 16 = .ok (.return_, 1) := by decide +kernel
theorem dX4_forgetAll_0 : decode cX4_forgetAll 0 = .ok (.aload_n 0, 1) := by decide +kernel
theorem dX4_forgetAll_1 : decode cX4_forgetAll 1 = .ok (.iconst 0, 1) := by decide +kernel
theorem dX4_forgetAll_2 : decode cX4_forgetAll 2 = .ok (.putfield 20, 3) := by decide +kernel
theorem dX4_forgetAll_5 : decode cX4_forgetAll 5 = .ok (.return_, 1) := by decide +kernel
theorem dX4_fill_0 : decode cX4_fill 0 = .ok (.aload_n 0, 1) := by decide +kernel
theorem dX4_fill_1 : decode cX4_fill 1 = .ok (.getfield 14, 3) := by decide +kernel
theorem dX4_fill_4 : decode cX4_fill 4 = .ok (.iload_n 1, 1) := by decide +kernel
theorem dX4_fill_5 : decode cX4_fill 5 = .ok (.aload_n 2, 1) := by decide +kernel
theorem dX4_fill_6 : decode cX4_fill 6 = .ok (.invokevirtual 24, 3) := by decide +kernel
theorem dX4_fill_9 : decode cX4_fill 9 = .ok (.aload_n 0, 1) := by decide +kernel
theorem dX4_fill_10 : decode cX4_fill 10 = .ok (.dup, 1) := by decide +kernel
theorem dX4_fill_11 : decode cX4_fill 11 = .ok (.getfield 20, 3) := by decide +kernel
theorem dX4_fill_14 : decode cX4_fill 14 = .ok (.iconst 1, 1) := by decide +kernel
theorem dX4_fill_15 : decode cX4_fill 15 = .ok (.iload_n 1, 1) := by decide +kernel
theorem dX4_fill_16 : decode cX4_fill 16 = .ok (.ishl, 1) := by decide +kernel
theorem dX4_fill_17 : decode cX4_fill 17 = .ok (.ior, 1) := by decide +kernel
theorem dX4_fill_18 : decode cX4_fill 18 = .ok (.putfield 20, 3) := by decide +kernel
theorem dX4_fill_21 : decode cX4_fill 21 = .ok (.return_, 1) := by decide +kernel
theorem dX4_fetch_0 : decode cX4_fetch 0 = .ok (.aload_n 0, 1) := by decide +kernel
theorem dX4_fetch_1 : decode cX4_fetch 1 = .ok (.getfield 20, 3) := by decide +kernel
theorem dX4_fetch_4 : decode cX4_fetch 4 = .ok (.iload_n 1, 1) := by decide +kernel
theorem dX4_fetch_5 : decode cX4_fetch 5 = .ok (.ishr, 1) := by decide +kernel
theorem dX4_fetch_6 : decode cX4_fetch 6 = .ok (.iconst 1, 1) := by decide +kernel
theorem dX4_fetch_7 : decode cX4_fetch 7 = .ok (.iand, 1) := by decide +kernel
theorem dX4_fetch_8 : decode cX4_fetch 8 = .ok (.ifCond .ne 5, 3) := by decide +kernel
theorem dX4_fetch_11 : decode cX4_fetch 11 = .ok (.iconst 0, 1) := by decide +kernel
theorem dX4_fetch_12 : decode cX4_fetch 12 = .ok (.ireturn, 1) := by decide +kernel
theorem dX4_fetch_13 : decode cX4_fetch 13 = .ok (.aload_n 0, 1) := by decide +kernel
theorem dX4_fetch_14 : decode cX4_fetch 14 = .ok (.getfield 14, 3) := by decide +kernel
theorem dX4_fetch_17 : decode cX4_fetch 17 = .ok (.iload_n 1, 1) := by decide +kernel
theorem dX4_fetch_18 : decode cX4_fetch 18 = .ok (.aload_n 2, 1) := by decide +kernel
theorem dX4_fetch_19 : decode cX4_fetch 19 = .ok (.invokevirtual 28, 3) := by decide +kernel
theorem dX4_fetch_22 : decode cX4_fetch 22 = .ok (.iconst 1, 1) := by decide +kernel
theorem dX4_fetch_23 : decode cX4_fetch 23 = .ok (.ireturn, 1) := by decide +kernel
theorem dX5_init_0 : decode cX5_init 0 = .ok (.aload_n 0, 1) := by decide +kernel
theorem dX5_init_1 : decode cX5_init 1 = .ok (.invokespecial 3, 3) := by decide +kernel
theorem dX5_init_4 : decode cX5_init 4 = .ok (.aload_n 0, 1) := by decide +kernel
theorem dX5_init_5 : decode cX5_init 5 = .ok (.bipush 8, 2) := by decide +kernel
theorem dX5_init_7 : decode cX5_init 7 = .ok (.newarray .int, 2) := by decide +kernel
theorem dX5_init_9 : decode cX5_init 9 = .ok (.putfield 9, 3) := by decide +kernel
theorem dX5_init_12 : decode cX5_init 12 = .ok (.return_, 1) := by decide +kernel
theorem dX5_layQuickPlan_0 : decode cX5_layQuickPlan 0 = .ok (.aload_n 0, 1) := by decide +kernel
theorem dX5_layQuickPlan_1 : decode cX5_layQuickPlan 1 = .ok (.aload_n 1, 1) := by decide +kernel
theorem dX5_layQuickPlan_2 : decode cX5_layQuickPlan 2 = .ok (.invokevirtual 15, 3) := by decide +kernel
theorem dX5_layQuickPlan_5 : decode cX5_layQuickPlan 5 = .ok (.aload_n 1, 1) := by decide +kernel
theorem dX5_layQuickPlan_6 : decode cX5_layQuickPlan 6 = .ok (.invokevirtual 19, 3) := by decide +kernel
theorem dX5_layQuickPlan_9 : decode cX5_layQuickPlan 9 = .ok (.iconst 1, 1) := by decide +kernel
theorem dX5_layQuickPlan_10 : decode cX5_layQuickPlan 10 = .ok (.istore_n 2, 1) := by decide +kernel
theorem dX5_layQuickPlan_11 : decode cX5_layQuickPlan 11 = .ok (.iload_n 2, 1) := by decide +kernel
theorem dX5_layQuickPlan_12 : decode cX5_layQuickPlan 12 = .ok (.aload_n 1, 1) := by decide +kernel
theorem dX5_layQuickPlan_13 : decode cX5_layQuickPlan 13 = .ok (.invokevirtual 24, 3) := by decide +kernel
theorem dX5_layQuickPlan_16 : decode cX5_layQuickPlan 16 = .ok (.if_icmp .ge 37, 3) := by decide +kernel
theorem dX5_layQuickPlan_19 : decode cX5_layQuickPlan 19 = .ok (.aload_n 0, 1) := by decide +kernel
theorem dX5_layQuickPlan_20 : decode cX5_layQuickPlan 20 = .ok (.aload_n 1, 1) := by decide +kernel
theorem dX5_layQuickPlan_21 : decode cX5_layQuickPlan 21 = .ok (.invokevirtual 28, 3) := by decide +kernel
theorem dX5_layQuickPlan_24 : decode cX5_layQuickPlan 24 = .ok (.istore_n 3, 1) := by decide +kernel
theorem dX5_layQuickPlan_25 : decode cX5_layQuickPlan 25 = .ok (.aload_n 0, 1) := by decide +kernel
theorem dX5_layQuickPlan_26 : decode cX5_layQuickPlan 26 = .ok (.aload_n 1, 1) := by decide +kernel
theorem dX5_layQuickPlan_27 : decode cX5_layQuickPlan 27 = .ok (.invokevirtual 32, 3) := by decide +kernel
theorem dX5_layQuickPlan_30 : decode cX5_layQuickPlan 30 = .ok (.istore 4, 2) := by decide +kernel
theorem dX5_layQuickPlan_32 : decode cX5_layQuickPlan 32 = .ok (.aload_n 0, 1) := by decide +kernel
theorem dX5_layQuickPlan_33 : decode cX5_layQuickPlan 33 = .ok (.aload_n 1, 1) := by decide +kernel
theorem dX5_layQuickPlan_34 : decode cX5_layQuickPlan 34 = .ok (.iload_n 3, 1) := by decide +kernel
theorem dX5_layQuickPlan_35 : decode cX5_layQuickPlan 35 = .ok (.iload 4, 2) := by decide +kernel
theorem dX5_layQuickPlan_37 : decode cX5_layQuickPlan 37 = .ok (.invokevirtual 35, 3) := by decide +kernel
theorem dX5_layQuickPlan_40 : decode cX5_layQuickPlan 40 = .ok (.aload_n 1, 1) := by decide +kernel
theorem dX5_layQuickPlan_41 : decode cX5_layQuickPlan 41 = .ok (.iload 4, 2) := by decide +kernel
theorem dX5_layQuickPlan_43 : decode cX5_layQuickPlan 43 = .ok (.iload_n 3, 1) := by decide +kernel
theorem dX5_layQuickPlan_44 : decode cX5_layQuickPlan 44 = .ok (.invokevirtual 39, 3) := by decide +kernel
theorem dX5_layQuickPlan_47 : decode cX5_layQuickPlan 47 = .ok (.iinc 2 1, 3) := by decide +kernel
theorem dX5_layQuickPlan_50 : decode cX5_layQuickPlan 50 = .ok (.goto (-39), 3) := by decide +kernel
theorem dX5_layQuickPlan_53 : decode cX5_layQuickPlan 53 = .ok (.return_, 1) := by decide +kernel
theorem dX5_leastLast_0 : decode cX5_leastLast 0 = .ok (.aload_n 1, 1) := by decide +kernel
theorem dX5_leastLast_1 : decode cX5_leastLast 1 = .ok (.invokevirtual 24, 3) := by decide +kernel
theorem dX5_leastLast_4 : decode cX5_leastLast 4 = .ok (.iconst 1, 1) := by decide +kernel
theorem dX5_leastLast_5 : decode cX5_leastLast 5 = .ok (.if_icmp .ne 5, 3) := by decide +kernel
theorem dX5_leastLast_8 : decode cX5_leastLast 8 = .ok (.iconst 0, 1) := by decide +kernel
theorem dX5_leastLast_9 : decode cX5_leastLast 9 = .ok (.ireturn, 1) := by decide +kernel
theorem dX5_leastLast_10 : decode cX5_leastLast 10 = .ok (.aload_n 0, 1) := by decide +kernel
theorem dX5_leastLast_11 : decode cX5_leastLast 11 = .ok (.aload_n 1, 1) := by decide +kernel
theorem dX5_leastLast_12 : decode cX5_leastLast 12 = .ok (.invokevirtual 15, 3) := by decide +kernel
theorem dX5_leastLast_15 : decode cX5_leastLast 15 = .ok (.aload_n 0, 1) := by decide +kernel
theorem dX5_leastLast_16 : decode cX5_leastLast 16 = .ok (.aload_n 1, 1) := by decide +kernel
theorem dX5_leastLast_17 : decode cX5_leastLast 17 = .ok (.aload_n 1, 1) := by decide +kernel
theorem dX5_leastLast_18 : decode cX5_leastLast 18 = .ok (.invokevirtual 24, 3) := by decide +kernel
theorem dX5_leastLast_21 : decode cX5_leastLast 21 = .ok (.iconst 1, 1) := by decide +kernel
theorem dX5_leastLast_22 : decode cX5_leastLast 22 = .ok (.isub, 1) := by decide +kernel
theorem dX5_leastLast_23 : decode cX5_leastLast 23 = .ok (.sipush 1000, 3) := by decide +kernel
theorem dX5_leastLast_26 : decode cX5_leastLast 26 = .ok (.invokevirtual 43, 3) := by decide +kernel
theorem dX5_leastLast_29 : decode cX5_leastLast 29 = .ok (.ireturn, 1) := by decide +kernel
theorem dX5_leastLastFrom_0 : decode cX5_leastLastFrom 0 = .ok (.aload_n 0, 1) := by decide +kernel
theorem dX5_leastLastFrom_1 : decode cX5_leastLastFrom 1 = .ok (.aload_n 1, 1) := by decide +kernel
theorem dX5_leastLastFrom_2 : decode cX5_leastLastFrom 2 = .ok (.invokevirtual 28, 3) := by decide +kernel
theorem dX5_leastLastFrom_5 : decode cX5_leastLastFrom 5 = .ok (.istore 4, 2) := by decide +kernel
theorem dX5_leastLastFrom_7 : decode cX5_leastLastFrom 7 = .ok (.aload_n 0, 1) := by decide +kernel
theorem dX5_leastLastFrom_8 : decode cX5_leastLastFrom 8 = .ok (.getfield 9, 3) := by decide +kernel
theorem dX5_leastLastFrom_11 : decode cX5_leastLastFrom 11 = .ok (.iload 4, 2) := by decide +kernel
theorem dX5_leastLastFrom_13 : decode cX5_leastLastFrom 13 = .ok (.invokestatic 47, 3) := by decide +kernel
theorem dX5_leastLastFrom_16 : decode cX5_leastLastFrom 16 = .ok (.istore 5, 2) := by decide +kernel
theorem dX5_leastLastFrom_18 : decode cX5_leastLastFrom 18 = .ok (.iload_n 2, 1) := by decide +kernel
theorem dX5_leastLastFrom_19 : decode cX5_leastLastFrom 19 = .ok (.iconst 1, 1) := by decide +kernel
theorem dX5_leastLastFrom_20 : decode cX5_leastLastFrom 20 = .ok (.if_icmp .le 9, 3) := by decide +kernel
theorem dX5_leastLastFrom_23 : decode cX5_leastLastFrom 23 = .ok (.iload 5, 2) := by decide +kernel
theorem dX5_leastLastFrom_25 : decode cX5_leastLastFrom 25 = .ok (.iload_n 3, 1) := by decide +kernel
theorem dX5_leastLastFrom_26 : decode cX5_leastLastFrom 26 = .ok (.if_icmp .lt 10, 3) := by decide +kernel
theorem dX5_leastLastFrom_29 : decode cX5_leastLastFrom 29 = .ok (.iload 5, 2) := by decide +kernel
theorem dX5_leastLastFrom_31 : decode cX5_leastLastFrom 31 = .ok (.iload_n 3, 1) := by decide +kernel
theorem dX5_leastLastFrom_32 : decode cX5_leastLastFrom 32 = .ok (.invokestatic 51, 3) := by decide +kernel
theorem dX5_leastLastFrom_35 : decode cX5_leastLastFrom 35 = .ok (.ireturn, 1) := by decide +kernel
theorem dX5_leastLastFrom_36 : decode cX5_leastLastFrom 36 = .ok (.iload_n 3, 1) := by decide +kernel
theorem dX5_leastLastFrom_37 : decode cX5_leastLastFrom 37 = .ok (.istore 6, 2) := by decide +kernel
theorem dX5_leastLastFrom_39 : decode cX5_leastLastFrom 39 = .ok (.iconst 1, 1) := by decide +kernel
theorem dX5_leastLastFrom_40 : decode cX5_leastLastFrom 40 = .ok (.istore 7, 2) := by decide +kernel
theorem dX5_leastLastFrom_42 : decode cX5_leastLastFrom 42 = .ok (.iload 7, 2) := by decide +kernel
theorem dX5_leastLastFrom_44 : decode cX5_leastLastFrom 44 = .ok (.aload_n 1, 1) := by decide +kernel
theorem dX5_leastLastFrom_45 : decode cX5_leastLastFrom 45 = .ok (.invokevirtual 24, 3) := by decide +kernel
theorem dX5_leastLastFrom_48 : decode cX5_leastLastFrom 48 = .ok (.if_icmp .ge 48, 3) := by decide +kernel
theorem dX5_leastLastFrom_51 : decode cX5_leastLastFrom 51 = .ok (.aload_n 0, 1) := by decide +kernel
theorem dX5_leastLastFrom_52 : decode cX5_leastLastFrom 52 = .ok (.iload 7, 2) := by decide +kernel
theorem dX5_leastLastFrom_54 : decode cX5_leastLastFrom 54 = .ok (.invokevirtual 57, 3) := by decide +kernel
theorem dX5_leastLastFrom_57 : decode cX5_leastLastFrom 57 = .ok (.ifCond .ne 33, 3) := by decide +kernel
theorem dX5_leastLastFrom_60 : decode cX5_leastLastFrom 60 = .ok (.aload_n 0, 1) := by decide +kernel
theorem dX5_leastLastFrom_61 : decode cX5_leastLastFrom 61 = .ok (.aload_n 1, 1) := by decide +kernel
theorem dX5_leastLastFrom_62 : decode cX5_leastLastFrom 62 = .ok (.iload 4, 2) := by decide +kernel
theorem dX5_leastLastFrom_64 : decode cX5_leastLastFrom 64 = .ok (.iload 7, 2) := by decide +kernel
theorem dX5_leastLastFrom_66 : decode cX5_leastLastFrom 66 = .ok (.invokevirtual 35, 3) := by decide +kernel
theorem dX5_leastLastFrom_69 : decode cX5_leastLastFrom 69 = .ok (.aload_n 0, 1) := by decide +kernel
theorem dX5_leastLastFrom_70 : decode cX5_leastLastFrom 70 = .ok (.aload_n 1, 1) := by decide +kernel
theorem dX5_leastLastFrom_71 : decode cX5_leastLastFrom 71 = .ok (.iload_n 2, 1) := by decide +kernel
theorem dX5_leastLastFrom_72 : decode cX5_leastLastFrom 72 = .ok (.iconst 1, 1) := by decide +kernel
theorem dX5_leastLastFrom_73 : decode cX5_leastLastFrom 73 = .ok (.isub, 1) := by decide +kernel
theorem dX5_leastLastFrom_74 : decode cX5_leastLastFrom 74 = .ok (.iload 6, 2) := by decide +kernel
theorem dX5_leastLastFrom_76 : decode cX5_leastLastFrom 76 = .ok (.invokevirtual 43, 3) := by decide +kernel
theorem dX5_leastLastFrom_79 : decode cX5_leastLastFrom 79 = .ok (.istore 6, 2) := by decide +kernel
theorem dX5_leastLastFrom_81 : decode cX5_leastLastFrom 81 = .ok (.aload_n 0, 1) := by decide +kernel
theorem dX5_leastLastFrom_82 : decode cX5_leastLastFrom 82 = .ok (.aload_n 1, 1) := by decide +kernel
theorem dX5_leastLastFrom_83 : decode cX5_leastLastFrom 83 = .ok (.iload 4, 2) := by decide +kernel
theorem dX5_leastLastFrom_85 : decode cX5_leastLastFrom 85 = .ok (.iload 7, 2) := by decide +kernel
theorem dX5_leastLastFrom_87 : decode cX5_leastLastFrom 87 = .ok (.invokevirtual 61, 3) := by decide +kernel
theorem dX5_leastLastFrom_90 : decode cX5_leastLastFrom 90 = .ok (.iinc 7 1, 3) := by decide +kernel
theorem dX5_leastLastFrom_93 : decode cX5_leastLastFrom 93 = .ok (.goto (-51), 3) := by decide +kernel
theorem dX5_leastLastFrom_96 : decode cX5_leastLastFrom 96 = .ok (.iload 6, 2) := by decide +kernel
theorem dX5_leastLastFrom_98 : decode cX5_leastLastFrom 98 = .ok (.ireturn, 1) := by decide +kernel
theorem dX5_begin_0 : decode cX5_begin 0 = .ok (.aload_n 0, 1) := by decide +kernel
theorem dX5_begin_1 : decode cX5_begin 1 = .ok (.iconst 1, 1) := by decide +kernel
theorem dX5_begin_2 : decode cX5_begin 2 = .ok (.putfield 64, 3) := by decide +kernel
theorem dX5_begin_5 : decode cX5_begin 5 = .ok (.aload_n 0, 1) := by decide +kernel
theorem dX5_begin_6 : decode cX5_begin 6 = .ok (.getfield 9, 3) := by decide +kernel
theorem dX5_begin_9 : decode cX5_begin 9 = .ok (.iconst 0, 1) := by decide +kernel
theorem dX5_begin_10 : decode cX5_begin 10 = .ok (.aload_n 1, 1) := by decide +kernel
theorem dX5_begin_11 : decode cX5_begin 11 = .ok (.iconst 0, 1) := by decide +kernel
theorem dX5_begin_12 : decode cX5_begin 12 = .ok (.invokevirtual 68, 3) := by decide +kernel
theorem dX5_begin_15 : decode cX5_begin 15 = .ok (.invokestatic 72, 3) := by decide +kernel
theorem dX5_begin_18 : decode cX5_begin 18 = .ok (.return_, 1) := by decide +kernel
theorem dX5_isKnower_0 : decode cX5_isKnower 0 = .ok (.aload_n 0, 1) := by decide +kernel
theorem dX5_isKnower_1 : decode cX5_isKnower 1 = .ok (.getfield 64, 3) := by decide +kernel
theorem dX5_isKnower_4 : decode cX5_isKnower 4 = .ok (.iload_n 1, 1) := by decide +kernel
theorem dX5_isKnower_5 : decode cX5_isKnower 5 = .ok (.ishr, 1) := by decide +kernel
theorem dX5_isKnower_6 : decode cX5_isKnower 6 = .ok (.iconst 1, 1) := by decide +kernel
theorem dX5_isKnower_7 : decode cX5_isKnower 7 = .ok (.iand, 1) := by decide +kernel
theorem dX5_isKnower_8 : decode cX5_isKnower 8 = .ok (.ifCond .eq 7, 3) := by decide +kernel
theorem dX5_isKnower_11 : decode cX5_isKnower 11 = .ok (.iconst 1, 1) := by decide +kernel
theorem dX5_isKnower_12 : decode cX5_isKnower 12 = .ok (.goto 4, 3) := by decide +kernel
theorem dX5_isKnower_15 : decode cX5_isKnower 15 = .ok (.iconst 0, 1) := by decide +kernel
theorem dX5_isKnower_16 : decode cX5_isKnower 16 = .ok (.ireturn, 1) := by decide +kernel
theorem dX5_soonest_0 : decode cX5_soonest 0 = .ok (.iconst 0, 1) := by decide +kernel
theorem dX5_soonest_1 : decode cX5_soonest 1 = .ok (.istore_n 2, 1) := by decide +kernel
theorem dX5_soonest_2 : decode cX5_soonest 2 = .ok (.iconst 1, 1) := by decide +kernel
theorem dX5_soonest_3 : decode cX5_soonest 3 = .ok (.istore_n 3, 1) := by decide +kernel
theorem dX5_soonest_4 : decode cX5_soonest 4 = .ok (.iload_n 3, 1) := by decide +kernel
theorem dX5_soonest_5 : decode cX5_soonest 5 = .ok (.aload_n 1, 1) := by decide +kernel
theorem dX5_soonest_6 : decode cX5_soonest 6 = .ok (.invokevirtual 24, 3) := by decide +kernel
theorem dX5_soonest_9 : decode cX5_soonest 9 = .ok (.if_icmp .ge 38, 3) := by decide +kernel
theorem dX5_soonest_12 : decode cX5_soonest 12 = .ok (.aload_n 0, 1) := by decide +kernel
theorem dX5_soonest_13 : decode cX5_soonest 13 = .ok (.iload_n 3, 1) := by decide +kernel
theorem dX5_soonest_14 : decode cX5_soonest 14 = .ok (.invokevirtual 57, 3) := by decide +kernel
theorem dX5_soonest_17 : decode cX5_soonest 17 = .ok (.ifCond .eq 24, 3) := by decide +kernel
theorem dX5_soonest_20 : decode cX5_soonest 20 = .ok (.aload_n 0, 1) := by decide +kernel
theorem dX5_soonest_21 : decode cX5_soonest 21 = .ok (.getfield 9, 3) := by decide +kernel
theorem dX5_soonest_24 : decode cX5_soonest 24 = .ok (.iload_n 3, 1) := by decide +kernel
theorem dX5_soonest_25 : decode cX5_soonest 25 = .ok (.invokestatic 47, 3) := by decide +kernel
theorem dX5_soonest_28 : decode cX5_soonest 28 = .ok (.aload_n 0, 1) := by decide +kernel
theorem dX5_soonest_29 : decode cX5_soonest 29 = .ok (.getfield 9, 3) := by decide +kernel
theorem dX5_soonest_32 : decode cX5_soonest 32 = .ok (.iload_n 2, 1) := by decide +kernel
theorem dX5_soonest_33 : decode cX5_soonest 33 = .ok (.invokestatic 47, 3) := by decide +kernel
theorem dX5_soonest_36 : decode cX5_soonest 36 = .ok (.if_icmp .ge 5, 3) := by decide +kernel
theorem dX5_soonest_39 : decode cX5_soonest 39 = .ok (.iload_n 3, 1) := by decide +kernel
theorem dX5_soonest_40 : decode cX5_soonest 40 = .ok (.istore_n 2, 1) := by decide +kernel
theorem dX5_soonest_41 : decode cX5_soonest 41 = .ok (.iinc 3 1, 3) := by decide +kernel
theorem dX5_soonest_44 : decode cX5_soonest 44 = .ok (.goto (-40), 3) := by decide +kernel
theorem dX5_soonest_47 : decode cX5_soonest 47 = .ok (.iload_n 2, 1) := by decide +kernel
theorem dX5_soonest_48 : decode cX5_soonest 48 = .ok (.ireturn, 1) := by decide +kernel
theorem dX5_leastDelayed_0 : decode cX5_leastDelayed 0 = .ok (.iconst 0, 1) := by decide +kernel
theorem dX5_leastDelayed_1 : decode cX5_leastDelayed 1 = .ok (.istore_n 2, 1) := by decide +kernel
theorem dX5_leastDelayed_2 : decode cX5_leastDelayed 2 = .ok (.iconst 1, 1) := by decide +kernel
theorem dX5_leastDelayed_3 : decode cX5_leastDelayed 3 = .ok (.istore_n 3, 1) := by decide +kernel
theorem dX5_leastDelayed_4 : decode cX5_leastDelayed 4 = .ok (.iload_n 3, 1) := by decide +kernel
theorem dX5_leastDelayed_5 : decode cX5_leastDelayed 5 = .ok (.aload_n 1, 1) := by decide +kernel
theorem dX5_leastDelayed_6 : decode cX5_leastDelayed 6 = .ok (.invokevirtual 24, 3) := by decide +kernel
theorem dX5_leastDelayed_9 : decode cX5_leastDelayed 9 = .ok (.if_icmp .ge 32, 3) := by decide +kernel
theorem dX5_leastDelayed_12 : decode cX5_leastDelayed 12 = .ok (.aload_n 0, 1) := by decide +kernel
theorem dX5_leastDelayed_13 : decode cX5_leastDelayed 13 = .ok (.iload_n 3, 1) := by decide +kernel
theorem dX5_leastDelayed_14 : decode cX5_leastDelayed 14 = .ok (.invokevirtual 57, 3) := by decide +kernel
theorem dX5_leastDelayed_17 : decode cX5_leastDelayed 17 = .ok (.ifCond .ne 18, 3) := by decide +kernel
theorem dX5_leastDelayed_20 : decode cX5_leastDelayed 20 = .ok (.iload_n 2, 1) := by decide +kernel
theorem dX5_leastDelayed_21 : decode cX5_leastDelayed 21 = .ok (.ifCond .eq 12, 3) := by decide +kernel
theorem dX5_leastDelayed_24 : decode cX5_leastDelayed 24 = .ok (.aload_n 1, 1) := by decide +kernel
theorem dX5_leastDelayed_25 : decode cX5_leastDelayed 25 = .ok (.iload_n 3, 1) := by decide +kernel
theorem dX5_leastDelayed_26 : decode cX5_leastDelayed 26 = .ok (.iload_n 2, 1) := by decide +kernel
theorem dX5_leastDelayed_27 : decode cX5_leastDelayed 27 = .ok (.invokestatic 76, 3) := by decide +kernel
theorem dX5_leastDelayed_30 : decode cX5_leastDelayed 30 = .ok (.ifCond .eq 5, 3) := by decide +kernel
theorem dX5_leastDelayed_33 : decode cX5_leastDelayed 33 = .ok (.iload_n 3, 1) := by decide +kernel
theorem dX5_leastDelayed_34 : decode cX5_leastDelayed 34 = .ok (.istore_n 2, 1) := by decide +kernel
theorem dX5_leastDelayed_35 : decode cX5_leastDelayed 35 = .ok (.iinc 3 1, 3) := by decide +kernel
theorem dX5_leastDelayed_38 : decode cX5_leastDelayed 38 = .ok (.goto (-34), 3) := by decide +kernel
theorem dX5_leastDelayed_41 : decode cX5_leastDelayed 41 = .ok (.iload_n 2, 1) := by decide +kernel
theorem dX5_leastDelayed_42 : decode cX5_leastDelayed 42 = .ok (.ireturn, 1) := by decide +kernel
theorem dX5_isLessDelayed_0 : decode cX5_isLessDelayed 0 = .ok (.aload_n 0, 1) := by decide +kernel
theorem dX5_isLessDelayed_1 : decode cX5_isLessDelayed 1 = .ok (.iload_n 1, 1) := by decide +kernel
theorem dX5_isLessDelayed_2 : decode cX5_isLessDelayed 2 = .ok (.invokevirtual 68, 3) := by decide +kernel
theorem dX5_isLessDelayed_5 : decode cX5_isLessDelayed 5 = .ok (.aload_n 0, 1) := by decide +kernel
theorem dX5_isLessDelayed_6 : decode cX5_isLessDelayed 6 = .ok (.iload_n 2, 1) := by decide +kernel
theorem dX5_isLessDelayed_7 : decode cX5_isLessDelayed 7 = .ok (.invokevirtual 68, 3) := by decide +kernel
theorem dX5_isLessDelayed_10 : decode cX5_isLessDelayed 10 = .ok (.if_icmp .eq 22, 3) := by decide +kernel
theorem dX5_isLessDelayed_13 : decode cX5_isLessDelayed 13 = .ok (.aload_n 0, 1) := by decide +kernel
theorem dX5_isLessDelayed_14 : decode cX5_isLessDelayed 14 = .ok (.iload_n 1, 1) := by decide +kernel
theorem dX5_isLessDelayed_15 : decode cX5_isLessDelayed 15 = .ok (.invokevirtual 68, 3) := by decide +kernel
theorem dX5_isLessDelayed_18 : decode cX5_isLessDelayed 18 = .ok (.aload_n 0, 1) := by decide +kernel
theorem dX5_isLessDelayed_19 : decode cX5_isLessDelayed 19 = .ok (.iload_n 2, 1) := by decide +kernel
theorem dX5_isLessDelayed_20 : decode cX5_isLessDelayed 20 = .ok (.invokevirtual 68, 3) := by decide +kernel
theorem dX5_isLessDelayed_23 : decode cX5_isLessDelayed 23 = .ok (.if_icmp .ge 7, 3) := by decide +kernel
theorem dX5_isLessDelayed_26 : decode cX5_isLessDelayed 26 = .ok (.iconst 1, 1) := by decide +kernel
theorem dX5_isLessDelayed_27 : decode cX5_isLessDelayed 27 = .ok (.goto 4, 3) := by decide +kernel
theorem dX5_isLessDelayed_30 : decode cX5_isLessDelayed 30 = .ok (.iconst 0, 1) := by decide +kernel
theorem dX5_isLessDelayed_31 : decode cX5_isLessDelayed 31 = .ok (.ireturn, 1) := by decide +kernel
theorem dX5_isLessDelayed_32 : decode cX5_isLessDelayed 32 = .ok (.aload_n 0, 1) := by decide +kernel
theorem dX5_isLessDelayed_33 : decode cX5_isLessDelayed 33 = .ok (.iload_n 1, 1) := by decide +kernel
theorem dX5_isLessDelayed_34 : decode cX5_isLessDelayed 34 = .ok (.invokevirtual 80, 3) := by decide +kernel
theorem dX5_isLessDelayed_37 : decode cX5_isLessDelayed 37 = .ok (.aload_n 0, 1) := by decide +kernel
theorem dX5_isLessDelayed_38 : decode cX5_isLessDelayed 38 = .ok (.iload_n 2, 1) := by decide +kernel
theorem dX5_isLessDelayed_39 : decode cX5_isLessDelayed 39 = .ok (.invokevirtual 80, 3) := by decide +kernel
theorem dX5_isLessDelayed_42 : decode cX5_isLessDelayed 42 = .ok (.if_icmp .ge 7, 3) := by decide +kernel
theorem dX5_isLessDelayed_45 : decode cX5_isLessDelayed 45 = .ok (.iconst 1, 1) := by decide +kernel
theorem dX5_isLessDelayed_46 : decode cX5_isLessDelayed 46 = .ok (.goto 4, 3) := by decide +kernel
theorem dX5_isLessDelayed_49 : decode cX5_isLessDelayed 49 = .ok (.iconst 0, 1) := by decide +kernel
theorem dX5_isLessDelayed_50 : decode cX5_isLessDelayed 50 = .ok (.ireturn, 1) := by decide +kernel
theorem dX5_tell_0 : decode cX5_tell 0 = .ok (.aload_n 0, 1) := by decide +kernel
theorem dX5_tell_1 : decode cX5_tell 1 = .ok (.getfield 9, 3) := by decide +kernel
theorem dX5_tell_4 : decode cX5_tell 4 = .ok (.iload_n 2, 1) := by decide +kernel
theorem dX5_tell_5 : decode cX5_tell 5 = .ok (.invokestatic 47, 3) := by decide +kernel
theorem dX5_tell_8 : decode cX5_tell 8 = .ok (.istore 4, 2) := by decide +kernel
theorem dX5_tell_10 : decode cX5_tell 10 = .ok (.aload_n 0, 1) := by decide +kernel
theorem dX5_tell_11 : decode cX5_tell 11 = .ok (.getfield 9, 3) := by decide +kernel
theorem dX5_tell_14 : decode cX5_tell 14 = .ok (.iload_n 2, 1) := by decide +kernel
theorem dX5_tell_15 : decode cX5_tell 15 = .ok (.iload 4, 2) := by decide +kernel
theorem dX5_tell_17 : decode cX5_tell 17 = .ok (.aload_n 1, 1) := by decide +kernel
theorem dX5_tell_18 : decode cX5_tell 18 = .ok (.iload_n 2, 1) := by decide +kernel
theorem dX5_tell_19 : decode cX5_tell 19 = .ok (.invokevirtual 80, 3) := by decide +kernel
theorem dX5_tell_22 : decode cX5_tell 22 = .ok (.iadd, 1) := by decide +kernel
theorem dX5_tell_23 : decode cX5_tell 23 = .ok (.invokestatic 72, 3) := by decide +kernel
theorem dX5_tell_26 : decode cX5_tell 26 = .ok (.aload_n 0, 1) := by decide +kernel
theorem dX5_tell_27 : decode cX5_tell 27 = .ok (.getfield 9, 3) := by decide +kernel
theorem dX5_tell_30 : decode cX5_tell 30 = .ok (.iload_n 3, 1) := by decide +kernel
theorem dX5_tell_31 : decode cX5_tell 31 = .ok (.iload 4, 2) := by decide +kernel
theorem dX5_tell_33 : decode cX5_tell 33 = .ok (.aload_n 1, 1) := by decide +kernel
theorem dX5_tell_34 : decode cX5_tell 34 = .ok (.iload_n 3, 1) := by decide +kernel
theorem dX5_tell_35 : decode cX5_tell 35 = .ok (.invokevirtual 68, 3) := by decide +kernel
theorem dX5_tell_38 : decode cX5_tell 38 = .ok (.iadd, 1) := by decide +kernel
theorem dX5_tell_39 : decode cX5_tell 39 = .ok (.invokestatic 72, 3) := by decide +kernel
theorem dX5_tell_42 : decode cX5_tell 42 = .ok (.aload_n 0, 1) := by decide +kernel
theorem dX5_tell_43 : decode cX5_tell 43 = .ok (.dup, 1) := by decide +kernel
theorem dX5_tell_44 : decode cX5_tell 44 = .ok (.getfield 64, 3) := by decide +kernel
theorem dX5_tell_47 : decode cX5_tell 47 = .ok (.iconst 1, 1) := by decide +kernel
theorem dX5_tell_48 : decode cX5_tell 48 = .ok (.iload_n 3, 1) := by decide +kernel
theorem dX5_tell_49 : decode cX5_tell 49 = .ok (.ishl, 1) := by decide +kernel
theorem dX5_tell_50 : decode cX5_tell 50 = .ok (.ior, 1) := by decide +kernel
theorem dX5_tell_51 : decode cX5_tell 51 = .ok (.putfield 64, 3) := by decide +kernel
theorem dX5_tell_54 : decode cX5_tell 54 = .ok (.return_, 1) := by decide +kernel
theorem dX5_takeBack_0 : decode cX5_takeBack 0 = .ok (.aload_n 0, 1) := by decide +kernel
theorem dX5_takeBack_1 : decode cX5_takeBack 1 = .ok (.getfield 9, 3) := by decide +kernel
theorem dX5_takeBack_4 : decode cX5_takeBack 4 = .ok (.iload_n 2, 1) := by decide +kernel
theorem dX5_takeBack_5 : decode cX5_takeBack 5 = .ok (.aload_n 0, 1) := by decide +kernel
theorem dX5_takeBack_6 : decode cX5_takeBack 6 = .ok (.getfield 9, 3) := by decide +kernel
theorem dX5_takeBack_9 : decode cX5_takeBack 9 = .ok (.iload_n 2, 1) := by decide +kernel
theorem dX5_takeBack_10 : decode cX5_takeBack 10 = .ok (.invokestatic 47, 3) := by decide +kernel
theorem dX5_takeBack_13 : decode cX5_takeBack 13 = .ok (.aload_n 1, 1) := by decide +kernel
theorem dX5_takeBack_14 : decode cX5_takeBack 14 = .ok (.iload_n 2, 1) := by decide +kernel
theorem dX5_takeBack_15 : decode cX5_takeBack 15 = .ok (.invokevirtual 80, 3) := by decide +kernel
theorem dX5_takeBack_18 : decode cX5_takeBack 18 = .ok (.isub, 1) := by decide +kernel
theorem dX5_takeBack_19 : decode cX5_takeBack 19 = .ok (.invokestatic 72, 3) := by decide +kernel
theorem dX5_takeBack_22 : decode cX5_takeBack 22 = .ok (.aload_n 0, 1) := by decide +kernel
theorem dX5_takeBack_23 : decode cX5_takeBack 23 = .ok (.dup, 1) := by decide +kernel
theorem dX5_takeBack_24 : decode cX5_takeBack 24 = .ok (.getfield 64, 3) := by decide +kernel
theorem dX5_takeBack_27 : decode cX5_takeBack 27 = .ok (.iconst 1, 1) := by decide +kernel
theorem dX5_takeBack_28 : decode cX5_takeBack 28 = .ok (.iload_n 3, 1) := by decide +kernel
theorem dX5_takeBack_29 : decode cX5_takeBack 29 = .ok (.ishl, 1) := by decide +kernel
theorem dX5_takeBack_30 : decode cX5_takeBack 30 = .ok (.iconst (-1), 1) := by decide +kernel
theorem dX5_takeBack_31 : decode cX5_takeBack 31 = .ok (.ixor, 1) := by decide +kernel
theorem dX5_takeBack_32 : decode cX5_takeBack 32 = .ok (.iand, 1) := by decide +kernel
theorem dX5_takeBack_33 : decode cX5_takeBack 33 = .ok (.putfield 64, 3) := by decide +kernel
theorem dX5_takeBack_36 : decode cX5_takeBack 36 = .ok (.return_, 1) := by decide +kernel
theorem dX6_init_0 : decode cX6_init 0 = .ok (.aload_n 0, 1) := by decide +kernel
theorem dX6_init_1 : decode cX6_init 1 = .ok (.invokespecial 3, 3) := by decide +kernel
theorem dX6_init_4 : decode cX6_init 4 = .ok (.aload_n 0, 1) := by decide +kernel
theorem dX6_init_5 : decode cX6_init 5 = .ok (.bipush 8, 2) := by decide +kernel
theorem dX6_init_7 : decode cX6_init 7 = .ok (.newarray .int, 2) := by decide +kernel
theorem dX6_init_9 : decode cX6_init 9 = .ok (.putfield 9, 3) := by decide +kernel
theorem dX6_init_12 : decode cX6_init 12 = .ok (.aload_n 0, 1) := by decide +kernel
theorem dX6_init_13 : decode cX6_init 13 = .ok (.bipush 8, 2) := by decide +kernel
theorem dX6_init_15 : decode cX6_init 15 = .ok (.newarray .int, 2) := by decide +kernel
theorem dX6_init_17 : decode cX6_init 17 = .ok (.putfield 15, 3) := by decide +kernel
theorem dX6_init_20 : decode cX6_init 20 = .ok (.aload_n 0, 1) := by decide +kernel
theorem dX6_init_21 : decode cX6_init 21 = .ok (.bipush 8, 2) := by decide +kernel
theorem dX6_init_23 : decode cX6_init 23 = .ok (.newarray .int, 2) := by decide +kernel
theorem dX6_init_25 : decode cX6_init 25 = .ok (.putfield 18, 3) := by decide +kernel
theorem dX6_init_28 : decode cX6_init 28 = .ok (.aload_n 0, 1) := by decide +kernel
theorem dX6_init_29 : decode cX6_init 29 = .ok (.bipush 8, 2) := by decide +kernel
theorem dX6_init_31 : decode cX6_init 31 = .ok (.newarray .int, 2) := by decide +kernel
theorem dX6_init_33 : decode cX6_init 33 = .ok (.putfield 21, 3) := by decide +kernel
theorem dX6_init_36 : decode cX6_init 36 = .ok (.aload_n 0, 1) := by decide +kernel
theorem dX6_init_37 : decode cX6_init 37 = .ok (.iconst 1, 1) := by decide +kernel
theorem dX6_init_38 : decode cX6_init 38 = .ok (.putfield 24, 3) := by decide +kernel
theorem dX6_init_41 : decode cX6_init 41 = .ok (.aload_n 0, 1) := by decide +kernel
theorem dX6_init_42 : decode cX6_init 42 = .ok (.iconst 1, 1) := by decide +kernel
theorem dX6_init_43 : decode cX6_init 43 = .ok (.putfield 28, 3) := by decide +kernel
theorem dX6_init_46 : decode cX6_init 46 = .ok (.aload_n 0, 1) := by decide +kernel
theorem dX6_init_47 : decode cX6_init 47 = .ok (.getfield 9, 3) := by decide +kernel
theorem dX6_init_50 : decode cX6_init 50 = .ok (.iconst 0, 1) := by decide +kernel
theorem dX6_init_51 : decode cX6_init 51 = .ok (.iconst 1, 1) := by decide +kernel
theorem dX6_init_52 : decode cX6_init 52 = .ok (.iastore, 1) := by decide +kernel
theorem dX6_init_53 : decode cX6_init 53 = .ok (.aload_n 0, 1) := by decide +kernel
theorem dX6_init_54 : decode cX6_init 54 = .ok (.getfield 15, 3) := by decide +kernel
theorem dX6_init_57 : decode cX6_init 57 = .ok (.iconst 0, 1) := by decide +kernel
theorem dX6_init_58 : decode cX6_init 58 = .ok (.iconst 1, 1) := by decide +kernel
theorem dX6_init_59 : decode cX6_init 59 = .ok (.iastore, 1) := by decide +kernel
theorem dX6_init_60 : decode cX6_init 60 = .ok (.aload_n 0, 1) := by decide +kernel
theorem dX6_init_61 : decode cX6_init 61 = .ok (.getfield 18, 3) := by decide +kernel
theorem dX6_init_64 : decode cX6_init 64 = .ok (.iconst 0, 1) := by decide +kernel
theorem dX6_init_65 : decode cX6_init 65 = .ok (.bipush (-9), 2) := by decide +kernel
theorem dX6_init_67 : decode cX6_init 67 = .ok (.iastore, 1) := by decide +kernel
theorem dX6_init_68 : decode cX6_init 68 = .ok (.return_, 1) := by decide +kernel
theorem dX6_become_0 : decode cX6_become 0 = .ok (.aload_n 0, 1) := by decide +kernel
theorem dX6_become_1 : decode cX6_become 1 = .ok (.aload_n 1, 1) := by decide +kernel
theorem dX6_become_2 : decode cX6_become 2 = .ok (.getfield 24, 3) := by decide +kernel
theorem dX6_become_5 : decode cX6_become 5 = .ok (.putfield 24, 3) := by decide +kernel
theorem dX6_become_8 : decode cX6_become 8 = .ok (.aload_n 0, 1) := by decide +kernel
theorem dX6_become_9 : decode cX6_become 9 = .ok (.aload_n 1, 1) := by decide +kernel
theorem dX6_become_10 : decode cX6_become 10 = .ok (.getfield 28, 3) := by decide +kernel
theorem dX6_become_13 : decode cX6_become 13 = .ok (.putfield 28, 3) := by decide +kernel
theorem dX6_become_16 : decode cX6_become 16 = .ok (.aload_n 0, 1) := by decide +kernel
theorem dX6_become_17 : decode cX6_become 17 = .ok (.aload_n 1, 1) := by decide +kernel
theorem dX6_become_18 : decode cX6_become 18 = .ok (.getfield 31, 3) := by decide +kernel
theorem dX6_become_21 : decode cX6_become 21 = .ok (.putfield 31, 3) := by decide +kernel
theorem dX6_become_24 : decode cX6_become 24 = .ok (.aload_n 1, 1) := by decide +kernel
theorem dX6_become_25 : decode cX6_become 25 = .ok (.getfield 9, 3) := by decide +kernel
theorem dX6_become_28 : decode cX6_become 28 = .ok (.iconst 0, 1) := by decide +kernel
theorem dX6_become_29 : decode cX6_become 29 = .ok (.aload_n 0, 1) := by decide +kernel
theorem dX6_become_30 : decode cX6_become 30 = .ok (.getfield 9, 3) := by decide +kernel
theorem dX6_become_33 : decode cX6_become 33 = .ok (.iconst 0, 1) := by decide +kernel
theorem dX6_become_34 : decode cX6_become 34 = .ok (.bipush 8, 2) := by decide +kernel
theorem dX6_become_36 : decode cX6_become 36 = .ok (.invokestatic 34, 3) := by decide +kernel
theorem dX6_become_39 : decode cX6_become 39 = .ok (.aload_n 1, 1) := by decide +kernel
theorem dX6_become_40 : decode cX6_become 40 = .ok (.getfield 15, 3) := by decide +kernel
theorem dX6_become_43 : decode cX6_become 43 = .ok (.iconst 0, 1) := by decide +kernel
theorem dX6_become_44 : decode cX6_become 44 = .ok (.aload_n 0, 1) := by decide +kernel
theorem dX6_become_45 : decode cX6_become 45 = .ok (.getfield 15, 3) := by decide +kernel
theorem dX6_become_48 : decode cX6_become 48 = .ok (.iconst 0, 1) := by decide +kernel
theorem dX6_become_49 : decode cX6_become 49 = .ok (.bipush 8, 2) := by decide +kernel
theorem dX6_become_51 : decode cX6_become 51 = .ok (.invokestatic 34, 3) := by decide +kernel
theorem dX6_become_54 : decode cX6_become 54 = .ok (.aload_n 1, 1) := by decide +kernel
theorem dX6_become_55 : decode cX6_become 55 = .ok (.getfield 18, 3) := by decide +kernel
theorem dX6_become_58 : decode cX6_become 58 = .ok (.iconst 0, 1) := by decide +kernel
theorem dX6_become_59 : decode cX6_become 59 = .ok (.aload_n 0, 1) := by decide +kernel
theorem dX6_become_60 : decode cX6_become 60 = .ok (.getfield 18, 3) := by decide +kernel
theorem dX6_become_63 : decode cX6_become 63 = .ok (.iconst 0, 1) := by decide +kernel
theorem dX6_become_64 : decode cX6_become 64 = .ok (.bipush 8, 2) := by decide +kernel
theorem dX6_become_66 : decode cX6_become 66 = .ok (.invokestatic 34, 3) := by decide +kernel
theorem dX6_become_69 : decode cX6_become 69 = .ok (.aload_n 1, 1) := by decide +kernel
theorem dX6_become_70 : decode cX6_become 70 = .ok (.getfield 21, 3) := by decide +kernel
theorem dX6_become_73 : decode cX6_become 73 = .ok (.iconst 0, 1) := by decide +kernel
theorem dX6_become_74 : decode cX6_become 74 = .ok (.aload_n 0, 1) := by decide +kernel
theorem dX6_become_75 : decode cX6_become 75 = .ok (.getfield 21, 3) := by decide +kernel
theorem dX6_become_78 : decode cX6_become 78 = .ok (.iconst 0, 1) := by decide +kernel
theorem dX6_become_79 : decode cX6_become 79 = .ok (.bipush 8, 2) := by decide +kernel
theorem dX6_become_81 : decode cX6_become 81 = .ok (.invokestatic 34, 3) := by decide +kernel
theorem dX6_become_84 : decode cX6_become 84 = .ok (.return_, 1) := by decide +kernel
theorem dX6_startWith_0 : decode cX6_startWith 0 = .ok (.aload_n 0, 1) := by decide +kernel
theorem dX6_startWith_1 : decode cX6_startWith 1 = .ok (.iload_n 1, 1) := by decide +kernel
theorem dX6_startWith_2 : decode cX6_startWith 2 = .ok (.putfield 24, 3) := by decide +kernel
theorem dX6_startWith_5 : decode cX6_startWith 5 = .ok (.aload_n 0, 1) := by decide +kernel
theorem dX6_startWith_6 : decode cX6_startWith 6 = .ok (.iload_n 2, 1) := by decide +kernel
theorem dX6_startWith_7 : decode cX6_startWith 7 = .ok (.putfield 28, 3) := by decide +kernel
theorem dX6_startWith_10 : decode cX6_startWith 10 = .ok (.aload_n 0, 1) := by decide +kernel
theorem dX6_startWith_11 : decode cX6_startWith 11 = .ok (.iconst 0, 1) := by decide +kernel
theorem dX6_startWith_12 : decode cX6_startWith 12 = .ok (.putfield 31, 3) := by decide +kernel
theorem dX6_startWith_15 : decode cX6_startWith 15 = .ok (.return_, 1) := by decide +kernel
theorem dX6_emptyPlan_0 : decode cX6_emptyPlan 0 = .ok (.aload_n 0, 1) := by decide +kernel
theorem dX6_emptyPlan_1 : decode cX6_emptyPlan 1 = .ok (.iconst 0, 1) := by decide +kernel
theorem dX6_emptyPlan_2 : decode cX6_emptyPlan 2 = .ok (.putfield 31, 3) := by decide +kernel
theorem dX6_emptyPlan_5 : decode cX6_emptyPlan 5 = .ok (.return_, 1) := by decide +kernel
theorem dX6_putLast_0 : decode cX6_putLast 0 = .ok (.aload_n 0, 1) := by decide +kernel
theorem dX6_putLast_1 : decode cX6_putLast 1 = .ok (.getfield 21, 3) := by decide +kernel
theorem dX6_putLast_4 : decode cX6_putLast 4 = .ok (.aload_n 0, 1) := by decide +kernel
theorem dX6_putLast_5 : decode cX6_putLast 5 = .ok (.getfield 31, 3) := by decide +kernel
theorem dX6_putLast_8 : decode cX6_putLast 8 = .ok (.iload_n 1, 1) := by decide +kernel
theorem dX6_putLast_9 : decode cX6_putLast 9 = .ok (.invokestatic 40, 3) := by decide +kernel
theorem dX6_putLast_12 : decode cX6_putLast 12 = .ok (.aload_n 0, 1) := by decide +kernel
theorem dX6_putLast_13 : decode cX6_putLast 13 = .ok (.getfield 18, 3) := by decide +kernel
theorem dX6_putLast_16 : decode cX6_putLast 16 = .ok (.iload_n 1, 1) := by decide +kernel
theorem dX6_putLast_17 : decode cX6_putLast 17 = .ok (.iload_n 2, 1) := by decide +kernel
theorem dX6_putLast_18 : decode cX6_putLast 18 = .ok (.invokestatic 40, 3) := by decide +kernel
theorem dX6_putLast_21 : decode cX6_putLast 21 = .ok (.aload_n 0, 1) := by decide +kernel
theorem dX6_putLast_22 : decode cX6_putLast 22 = .ok (.dup, 1) := by decide +kernel
theorem dX6_putLast_23 : decode cX6_putLast 23 = .ok (.getfield 31, 3) := by decide +kernel
theorem dX6_putLast_26 : decode cX6_putLast 26 = .ok (.iconst 1, 1) := by decide +kernel
theorem dX6_putLast_27 : decode cX6_putLast 27 = .ok (.iadd, 1) := by decide +kernel
theorem dX6_putLast_28 : decode cX6_putLast 28 = .ok (.putfield 31, 3) := by decide +kernel
theorem dX6_putLast_31 : decode cX6_putLast 31 = .ok (.return_, 1) := by decide +kernel
theorem dX6_people_0 : decode cX6_people 0 = .ok (.aload_n 0, 1) := by decide +kernel
theorem dX6_people_1 : decode cX6_people 1 = .ok (.getfield 24, 3) := by decide +kernel
theorem dX6_people_4 : decode cX6_people 4 = .ok (.ireturn, 1) := by decide +kernel
theorem dX6_news_0 : decode cX6_news 0 = .ok (.aload_n 0, 1) := by decide +kernel
theorem dX6_news_1 : decode cX6_news 1 = .ok (.getfield 28, 3) := by decide +kernel
theorem dX6_news_4 : decode cX6_news 4 = .ok (.ireturn, 1) := by decide +kernel
theorem dX6_standing_0 : decode cX6_standing 0 = .ok (.aload_n 0, 1) := by decide +kernel
theorem dX6_standing_1 : decode cX6_standing 1 = .ok (.getfield 31, 3) := by decide +kernel
theorem dX6_standing_4 : decode cX6_standing 4 = .ok (.ireturn, 1) := by decide +kernel
theorem dX6_hasPerson_0 : decode cX6_hasPerson 0 = .ok (.iload_n 1, 1) := by decide +kernel
theorem dX6_hasPerson_1 : decode cX6_hasPerson 1 = .ok (.ifCond .lt 15, 3) := by decide +kernel
theorem dX6_hasPerson_4 : decode cX6_hasPerson 4 = .ok (.iload_n 1, 1) := by decide +kernel
theorem dX6_hasPerson_5 : decode cX6_hasPerson 5 = .ok (.aload_n 0, 1) := by decide +kernel
theorem dX6_hasPerson_6 : decode cX6_hasPerson 6 = .ok (.getfield 24, 3) := by decide +kernel
theorem dX6_hasPerson_9 : decode cX6_hasPerson 9 = .ok (.if_icmp .ge 7, 3) := by decide +kernel
theorem dX6_hasPerson_12 : decode cX6_hasPerson 12 = .ok (.iconst 1, 1) := by decide +kernel
theorem dX6_hasPerson_13 : decode cX6_hasPerson 13 = .ok (.goto 4, 3) := by decide +kernel
theorem dX6_hasPerson_16 : decode cX6_hasPerson 16 = .ok (.iconst 0, 1) := by decide +kernel
theorem dX6_hasPerson_17 : decode cX6_hasPerson 17 = .ok (.ireturn, 1) := by decide +kernel
theorem dX6_hasNews_0 : decode cX6_hasNews 0 = .ok (.iload_n 1, 1) := by decide +kernel
theorem dX6_hasNews_1 : decode cX6_hasNews 1 = .ok (.ifCond .lt 15, 3) := by decide +kernel
theorem dX6_hasNews_4 : decode cX6_hasNews 4 = .ok (.iload_n 1, 1) := by decide +kernel
theorem dX6_hasNews_5 : decode cX6_hasNews 5 = .ok (.aload_n 0, 1) := by decide +kernel
theorem dX6_hasNews_6 : decode cX6_hasNews 6 = .ok (.getfield 28, 3) := by decide +kernel
theorem dX6_hasNews_9 : decode cX6_hasNews 9 = .ok (.if_icmp .ge 7, 3) := by decide +kernel
theorem dX6_hasNews_12 : decode cX6_hasNews 12 = .ok (.iconst 1, 1) := by decide +kernel
theorem dX6_hasNews_13 : decode cX6_hasNews 13 = .ok (.goto 4, 3) := by decide +kernel
theorem dX6_hasNews_16 : decode cX6_hasNews 16 = .ok (.iconst 0, 1) := by decide +kernel
theorem dX6_hasNews_17 : decode cX6_hasNews 17 = .ok (.ireturn, 1) := by decide +kernel
theorem dX6_hasPlace_0 : decode cX6_hasPlace 0 = .ok (.iload_n 1, 1) := by decide +kernel
theorem dX6_hasPlace_1 : decode cX6_hasPlace 1 = .ok (.ifCond .lt 15, 3) := by decide +kernel
theorem dX6_hasPlace_4 : decode cX6_hasPlace 4 = .ok (.iload_n 1, 1) := by decide +kernel
theorem dX6_hasPlace_5 : decode cX6_hasPlace 5 = .ok (.aload_n 0, 1) := by decide +kernel
theorem dX6_hasPlace_6 : decode cX6_hasPlace 6 = .ok (.getfield 31, 3) := by decide +kernel
theorem dX6_hasPlace_9 : decode cX6_hasPlace 9 = .ok (.if_icmp .ge 7, 3) := by decide +kernel
theorem dX6_hasPlace_12 : decode cX6_hasPlace 12 = .ok (.iconst 1, 1) := by decide +kernel
theorem dX6_hasPlace_13 : decode cX6_hasPlace 13 = .ok (.goto 4, 3) := by decide +kernel
theorem dX6_hasPlace_16 : decode cX6_hasPlace 16 = .ok (.iconst 0, 1) := by decide +kernel
theorem dX6_hasPlace_17 : decode cX6_hasPlace 17 = .ok (.ireturn, 1) := by decide +kernel
theorem dX6_delayOf_0 : decode cX6_delayOf 0 = .ok (.aload_n 0, 1) := by decide +kernel
theorem dX6_delayOf_1 : decode cX6_delayOf 1 = .ok (.getfield 9, 3) := by decide +kernel
theorem dX6_delayOf_4 : decode cX6_delayOf 4 = .ok (.iload_n 1, 1) := by decide +kernel
theorem dX6_delayOf_5 : decode cX6_delayOf 5 = .ok (.invokestatic 44, 3) := by decide +kernel
theorem dX6_delayOf_8 : decode cX6_delayOf 8 = .ok (.ireturn, 1) := by decide +kernel
theorem dX6_gapOf_0 : decode cX6_gapOf 0 = .ok (.aload_n 0, 1) := by decide +kernel
theorem dX6_gapOf_1 : decode cX6_gapOf 1 = .ok (.getfield 15, 3) := by decide +kernel
theorem dX6_gapOf_4 : decode cX6_gapOf 4 = .ok (.iload_n 1, 1) := by decide +kernel
theorem dX6_gapOf_5 : decode cX6_gapOf 5 = .ok (.invokestatic 44, 3) := by decide +kernel
theorem dX6_gapOf_8 : decode cX6_gapOf 8 = .ok (.ireturn, 1) := by decide +kernel
theorem dX6_tellerOf_0 : decode cX6_tellerOf 0 = .ok (.aload_n 0, 1) := by decide +kernel
theorem dX6_tellerOf_1 : decode cX6_tellerOf 1 = .ok (.getfield 18, 3) := by decide +kernel
theorem dX6_tellerOf_4 : decode cX6_tellerOf 4 = .ok (.iload_n 1, 1) := by decide +kernel
theorem dX6_tellerOf_5 : decode cX6_tellerOf 5 = .ok (.invokestatic 44, 3) := by decide +kernel
theorem dX6_tellerOf_8 : decode cX6_tellerOf 8 = .ok (.ireturn, 1) := by decide +kernel
theorem dX6_personAt_0 : decode cX6_personAt 0 = .ok (.aload_n 0, 1) := by decide +kernel
theorem dX6_personAt_1 : decode cX6_personAt 1 = .ok (.getfield 21, 3) := by decide +kernel
theorem dX6_personAt_4 : decode cX6_personAt 4 = .ok (.iload_n 1, 1) := by decide +kernel
theorem dX6_personAt_5 : decode cX6_personAt 5 = .ok (.invokestatic 44, 3) := by decide +kernel
theorem dX6_personAt_8 : decode cX6_personAt 8 = .ok (.ireturn, 1) := by decide +kernel
theorem dX6_placeOf_0 : decode cX6_placeOf 0 = .ok (.iconst 0, 1) := by decide +kernel
theorem dX6_placeOf_1 : decode cX6_placeOf 1 = .ok (.istore_n 2, 1) := by decide +kernel
theorem dX6_placeOf_2 : decode cX6_placeOf 2 = .ok (.iload_n 2, 1) := by decide +kernel
theorem dX6_placeOf_3 : decode cX6_placeOf 3 = .ok (.aload_n 0, 1) := by decide +kernel
theorem dX6_placeOf_4 : decode cX6_placeOf 4 = .ok (.getfield 31, 3) := by decide +kernel
theorem dX6_placeOf_7 : decode cX6_placeOf 7 = .ok (.if_icmp .ge 20, 3) := by decide +kernel
theorem dX6_placeOf_10 : decode cX6_placeOf 10 = .ok (.aload_n 0, 1) := by decide +kernel
theorem dX6_placeOf_11 : decode cX6_placeOf 11 = .ok (.iload_n 2, 1) := by decide +kernel
theorem dX6_placeOf_12 : decode cX6_placeOf 12 = .ok (.invokevirtual 48, 3) := by decide +kernel
theorem dX6_placeOf_15 : decode cX6_placeOf 15 = .ok (.iload_n 1, 1) := by decide +kernel
theorem dX6_placeOf_16 : decode cX6_placeOf 16 = .ok (.if_icmp .ne 5, 3) := by decide +kernel
theorem dX6_placeOf_19 : decode cX6_placeOf 19 = .ok (.iload_n 2, 1) := by decide +kernel
theorem dX6_placeOf_20 : decode cX6_placeOf 20 = .ok (.ireturn, 1) := by decide +kernel
theorem dX6_placeOf_21 : decode cX6_placeOf 21 = .ok (.iinc 2 1, 3) := by decide +kernel
theorem dX6_placeOf_24 : decode cX6_placeOf 24 = .ok (.goto (-22), 3) := by decide +kernel
theorem dX6_placeOf_27 : decode cX6_placeOf 27 = .ok (.bipush (-9), 2) := by decide +kernel
theorem dX6_placeOf_29 : decode cX6_placeOf 29 = .ok (.ireturn, 1) := by decide +kernel
theorem dX6_countToldBy_0 : decode cX6_countToldBy 0 = .ok (.iconst 0, 1) := by decide +kernel
theorem dX6_countToldBy_1 : decode cX6_countToldBy 1 = .ok (.istore_n 2, 1) := by decide +kernel
theorem dX6_countToldBy_2 : decode cX6_countToldBy 2 = .ok (.iconst 0, 1) := by decide +kernel
theorem dX6_countToldBy_3 : decode cX6_countToldBy 3 = .ok (.istore_n 3, 1) := by decide +kernel
theorem dX6_countToldBy_4 : decode cX6_countToldBy 4 = .ok (.iload_n 3, 1) := by decide +kernel
theorem dX6_countToldBy_5 : decode cX6_countToldBy 5 = .ok (.aload_n 0, 1) := by decide +kernel
theorem dX6_countToldBy_6 : decode cX6_countToldBy 6 = .ok (.getfield 31, 3) := by decide +kernel
theorem dX6_countToldBy_9 : decode cX6_countToldBy 9 = .ok (.if_icmp .ge 25, 3) := by decide +kernel
theorem dX6_countToldBy_12 : decode cX6_countToldBy 12 = .ok (.aload_n 0, 1) := by decide +kernel
theorem dX6_countToldBy_13 : decode cX6_countToldBy 13 = .ok (.aload_n 0, 1) := by decide +kernel
theorem dX6_countToldBy_14 : decode cX6_countToldBy 14 = .ok (.iload_n 3, 1) := by decide +kernel
theorem dX6_countToldBy_15 : decode cX6_countToldBy 15 = .ok (.invokevirtual 48, 3) := by decide +kernel
theorem dX6_countToldBy_18 : decode cX6_countToldBy 18 = .ok (.invokevirtual 52, 3) := by decide +kernel
theorem dX6_countToldBy_21 : decode cX6_countToldBy 21 = .ok (.iload_n 1, 1) := by decide +kernel
theorem dX6_countToldBy_22 : decode cX6_countToldBy 22 = .ok (.if_icmp .ne 6, 3) := by decide +kernel
theorem dX6_countToldBy_25 : decode cX6_countToldBy 25 = .ok (.iinc 2 1, 3) := by decide +kernel
theorem dX6_countToldBy_28 : decode cX6_countToldBy 28 = .ok (.iinc 3 1, 3) := by decide +kernel
theorem dX6_countToldBy_31 : decode cX6_countToldBy 31 = .ok (.goto (-27), 3) := by decide +kernel
theorem dX6_countToldBy_34 : decode cX6_countToldBy 34 = .ok (.iload_n 2, 1) := by decide +kernel
theorem dX6_countToldBy_35 : decode cX6_countToldBy 35 = .ok (.ireturn, 1) := by decide +kernel
theorem dX6_branchOf_0 : decode cX6_branchOf 0 = .ok (.iconst 1, 1) := by decide +kernel
theorem dX6_branchOf_1 : decode cX6_branchOf 1 = .ok (.iload_n 1, 1) := by decide +kernel
theorem dX6_branchOf_2 : decode cX6_branchOf 2 = .ok (.ishl, 1) := by decide +kernel
theorem dX6_branchOf_3 : decode cX6_branchOf 3 = .ok (.istore_n 2, 1) := by decide +kernel
theorem dX6_branchOf_4 : decode cX6_branchOf 4 = .ok (.iconst 0, 1) := by decide +kernel
theorem dX6_branchOf_5 : decode cX6_branchOf 5 = .ok (.istore_n 3, 1) := by decide +kernel
theorem dX6_branchOf_6 : decode cX6_branchOf 6 = .ok (.iload_n 3, 1) := by decide +kernel
theorem dX6_branchOf_7 : decode cX6_branchOf 7 = .ok (.aload_n 0, 1) := by decide +kernel
theorem dX6_branchOf_8 : decode cX6_branchOf 8 = .ok (.getfield 31, 3) := by decide +kernel
theorem dX6_branchOf_11 : decode cX6_branchOf 11 = .ok (.if_icmp .ge 36, 3) := by decide +kernel
theorem dX6_branchOf_14 : decode cX6_branchOf 14 = .ok (.aload_n 0, 1) := by decide +kernel
theorem dX6_branchOf_15 : decode cX6_branchOf 15 = .ok (.iload_n 3, 1) := by decide +kernel
theorem dX6_branchOf_16 : decode cX6_branchOf 16 = .ok (.invokevirtual 48, 3) := by decide +kernel
theorem dX6_branchOf_19 : decode cX6_branchOf 19 = .ok (.istore 4, 2) := by decide +kernel
theorem dX6_branchOf_21 : decode cX6_branchOf 21 = .ok (.iload_n 2, 1) := by decide +kernel
theorem dX6_branchOf_22 : decode cX6_branchOf 22 = .ok (.aload_n 0, 1) := by decide +kernel
theorem dX6_branchOf_23 : decode cX6_branchOf 23 = .ok (.iload 4, 2) := by decide +kernel
theorem dX6_branchOf_25 : decode cX6_branchOf 25 = .ok (.invokevirtual 52, 3) := by decide +kernel
theorem dX6_branchOf_28 : decode cX6_branchOf 28 = .ok (.ishr, 1) := by decide +kernel
theorem dX6_branchOf_29 : decode cX6_branchOf 29 = .ok (.iconst 1, 1) := by decide +kernel
theorem dX6_branchOf_30 : decode cX6_branchOf 30 = .ok (.iand, 1) := by decide +kernel
theorem dX6_branchOf_31 : decode cX6_branchOf 31 = .ok (.ifCond .eq 10, 3) := by decide +kernel
theorem dX6_branchOf_34 : decode cX6_branchOf 34 = .ok (.iload_n 2, 1) := by decide +kernel
theorem dX6_branchOf_35 : decode cX6_branchOf 35 = .ok (.iconst 1, 1) := by decide +kernel
theorem dX6_branchOf_36 : decode cX6_branchOf 36 = .ok (.iload 4, 2) := by decide +kernel
theorem dX6_branchOf_38 : decode cX6_branchOf 38 = .ok (.ishl, 1) := by decide +kernel
theorem dX6_branchOf_39 : decode cX6_branchOf 39 = .ok (.ior, 1) := by decide +kernel
theorem dX6_branchOf_40 : decode cX6_branchOf 40 = .ok (.istore_n 2, 1) := by decide +kernel
theorem dX6_branchOf_41 : decode cX6_branchOf 41 = .ok (.iinc 3 1, 3) := by decide +kernel
theorem dX6_branchOf_44 : decode cX6_branchOf 44 = .ok (.goto (-38), 3) := by decide +kernel
theorem dX6_branchOf_47 : decode cX6_branchOf 47 = .ok (.iload_n 2, 1) := by decide +kernel
theorem dX6_branchOf_48 : decode cX6_branchOf 48 = .ok (.ireturn, 1) := by decide +kernel
theorem dX6_setDelay_0 : decode cX6_setDelay 0 = .ok (.aload_n 0, 1) := by decide +kernel
theorem dX6_setDelay_1 : decode cX6_setDelay 1 = .ok (.getfield 9, 3) := by decide +kernel
theorem dX6_setDelay_4 : decode cX6_setDelay 4 = .ok (.iload_n 1, 1) := by decide +kernel
theorem dX6_setDelay_5 : decode cX6_setDelay 5 = .ok (.iload_n 2, 1) := by decide +kernel
theorem dX6_setDelay_6 : decode cX6_setDelay 6 = .ok (.invokestatic 40, 3) := by decide +kernel
theorem dX6_setDelay_9 : decode cX6_setDelay 9 = .ok (.return_, 1) := by decide +kernel
theorem dX6_setGap_0 : decode cX6_setGap 0 = .ok (.aload_n 0, 1) := by decide +kernel
theorem dX6_setGap_1 : decode cX6_setGap 1 = .ok (.getfield 15, 3) := by decide +kernel
theorem dX6_setGap_4 : decode cX6_setGap 4 = .ok (.iload_n 1, 1) := by decide +kernel
theorem dX6_setGap_5 : decode cX6_setGap 5 = .ok (.iload_n 2, 1) := by decide +kernel
theorem dX6_setGap_6 : decode cX6_setGap 6 = .ok (.invokestatic 40, 3) := by decide +kernel
theorem dX6_setGap_9 : decode cX6_setGap 9 = .ok (.return_, 1) := by decide +kernel
theorem dX6_tellAnew_0 : decode cX6_tellAnew 0 = .ok (.iload_n 2, 1) := by decide +kernel
theorem dX6_tellAnew_1 : decode cX6_tellAnew 1 = .ok (.ifCond .ne 19, 3) := by decide +kernel
theorem dX6_tellAnew_4 : decode cX6_tellAnew 4 = .ok (.aload_n 0, 1) := by decide +kernel
theorem dX6_tellAnew_5 : decode cX6_tellAnew 5 = .ok (.iload_n 1, 1) := by decide +kernel
theorem dX6_tellAnew_6 : decode cX6_tellAnew 6 = .ok (.invokevirtual 55, 3) := by decide +kernel
theorem dX6_tellAnew_9 : decode cX6_tellAnew 9 = .ok (.istore 4, 2) := by decide +kernel
theorem dX6_tellAnew_11 : decode cX6_tellAnew 11 = .ok (.aload_n 0, 1) := by decide +kernel
theorem dX6_tellAnew_12 : decode cX6_tellAnew 12 = .ok (.iload_n 1, 1) := by decide +kernel
theorem dX6_tellAnew_13 : decode cX6_tellAnew 13 = .ok (.iload_n 3, 1) := by decide +kernel
theorem dX6_tellAnew_14 : decode cX6_tellAnew 14 = .ok (.invokevirtual 58, 3) := by decide +kernel
theorem dX6_tellAnew_17 : decode cX6_tellAnew 17 = .ok (.goto 35, 3) := by decide +kernel
theorem dX6_tellAnew_20 : decode cX6_tellAnew 20 = .ok (.iload_n 2, 1) := by decide +kernel
theorem dX6_tellAnew_21 : decode cX6_tellAnew 21 = .ok (.iconst 1, 1) := by decide +kernel
theorem dX6_tellAnew_22 : decode cX6_tellAnew 22 = .ok (.if_icmp .ne 19, 3) := by decide +kernel
theorem dX6_tellAnew_25 : decode cX6_tellAnew 25 = .ok (.aload_n 0, 1) := by decide +kernel
theorem dX6_tellAnew_26 : decode cX6_tellAnew 26 = .ok (.iload_n 1, 1) := by decide +kernel
theorem dX6_tellAnew_27 : decode cX6_tellAnew 27 = .ok (.invokevirtual 62, 3) := by decide +kernel
theorem dX6_tellAnew_30 : decode cX6_tellAnew 30 = .ok (.istore 4, 2) := by decide +kernel
theorem dX6_tellAnew_32 : decode cX6_tellAnew 32 = .ok (.aload_n 0, 1) := by decide +kernel
theorem dX6_tellAnew_33 : decode cX6_tellAnew 33 = .ok (.iload_n 1, 1) := by decide +kernel
theorem dX6_tellAnew_34 : decode cX6_tellAnew 34 = .ok (.iload_n 3, 1) := by decide +kernel
theorem dX6_tellAnew_35 : decode cX6_tellAnew 35 = .ok (.invokevirtual 65, 3) := by decide +kernel
theorem dX6_tellAnew_38 : decode cX6_tellAnew 38 = .ok (.goto 14, 3) := by decide +kernel
theorem dX6_tellAnew_41 : decode cX6_tellAnew 41 = .ok (.aload_n 0, 1) := by decide +kernel
theorem dX6_tellAnew_42 : decode cX6_tellAnew 42 = .ok (.getfield 28, 3) := by decide +kernel
theorem dX6_tellAnew_45 : decode cX6_tellAnew 45 = .ok (.istore 4, 2) := by decide +kernel
theorem dX6_tellAnew_47 : decode cX6_tellAnew 47 = .ok (.aload_n 0, 1) := by decide +kernel
theorem dX6_tellAnew_48 : decode cX6_tellAnew 48 = .ok (.iload_n 3, 1) := by decide +kernel
theorem dX6_tellAnew_49 : decode cX6_tellAnew 49 = .ok (.putfield 28, 3) := by decide +kernel
theorem dX6_tellAnew_52 : decode cX6_tellAnew 52 = .ok (.iload 4, 2) := by decide +kernel
theorem dX6_tellAnew_54 : decode cX6_tellAnew 54 = .ok (.ireturn, 1) := by decide +kernel
theorem dX6_giveTeller_0 : decode cX6_giveTeller 0 = .ok (.aload_n 0, 1) := by decide +kernel
theorem dX6_giveTeller_1 : decode cX6_giveTeller 1 = .ok (.iload_n 1, 1) := by decide +kernel
theorem dX6_giveTeller_2 : decode cX6_giveTeller 2 = .ok (.invokevirtual 68, 3) := by decide +kernel
theorem dX6_giveTeller_5 : decode cX6_giveTeller 5 = .ok (.istore_n 3, 1) := by decide +kernel
theorem dX6_giveTeller_6 : decode cX6_giveTeller 6 = .ok (.aload_n 0, 1) := by decide +kernel
theorem dX6_giveTeller_7 : decode cX6_giveTeller 7 = .ok (.getfield 18, 3) := by decide +kernel
theorem dX6_giveTeller_10 : decode cX6_giveTeller 10 = .ok (.iload_n 1, 1) := by decide +kernel
theorem dX6_giveTeller_11 : decode cX6_giveTeller 11 = .ok (.iload_n 2, 1) := by decide +kernel
theorem dX6_giveTeller_12 : decode cX6_giveTeller 12 = .ok (.invokestatic 40, 3) := by decide +kernel
theorem dX6_giveTeller_15 : decode cX6_giveTeller 15 = .ok (.iconst 0, 1) := by decide +kernel
theorem dX6_giveTeller_16 : decode cX6_giveTeller 16 = .ok (.istore 4, 2) := by decide +kernel
theorem dX6_giveTeller_18 : decode cX6_giveTeller 18 = .ok (.iconst 0, 1) := by decide +kernel
theorem dX6_giveTeller_19 : decode cX6_giveTeller 19 = .ok (.istore 5, 2) := by decide +kernel
theorem dX6_giveTeller_21 : decode cX6_giveTeller 21 = .ok (.iload 5, 2) := by decide +kernel
theorem dX6_giveTeller_23 : decode cX6_giveTeller 23 = .ok (.aload_n 0, 1) := by decide +kernel
theorem dX6_giveTeller_24 : decode cX6_giveTeller 24 = .ok (.getfield 31, 3) := by decide +kernel
theorem dX6_giveTeller_27 : decode cX6_giveTeller 27 = .ok (.if_icmp .ge 34, 3) := by decide +kernel
theorem dX6_giveTeller_30 : decode cX6_giveTeller 30 = .ok (.iload_n 3, 1) := by decide +kernel
theorem dX6_giveTeller_31 : decode cX6_giveTeller 31 = .ok (.aload_n 0, 1) := by decide +kernel
theorem dX6_giveTeller_32 : decode cX6_giveTeller 32 = .ok (.iload 4, 2) := by decide +kernel
theorem dX6_giveTeller_34 : decode cX6_giveTeller 34 = .ok (.invokevirtual 48, 3) := by decide +kernel
theorem dX6_giveTeller_37 : decode cX6_giveTeller 37 = .ok (.ishr, 1) := by decide +kernel
theorem dX6_giveTeller_38 : decode cX6_giveTeller 38 = .ok (.iconst 1, 1) := by decide +kernel
theorem dX6_giveTeller_39 : decode cX6_giveTeller 39 = .ok (.iand, 1) := by decide +kernel
theorem dX6_giveTeller_40 : decode cX6_giveTeller 40 = .ok (.ifCond .eq 12, 3) := by decide +kernel
theorem dX6_giveTeller_43 : decode cX6_giveTeller 43 = .ok (.aload_n 0, 1) := by decide +kernel
theorem dX6_giveTeller_44 : decode cX6_giveTeller 44 = .ok (.iload 4, 2) := by decide +kernel
theorem dX6_giveTeller_46 : decode cX6_giveTeller 46 = .ok (.invokevirtual 71, 3) := by decide +kernel
theorem dX6_giveTeller_49 : decode cX6_giveTeller 49 = .ok (.goto 6, 3) := by decide +kernel
theorem dX6_giveTeller_52 : decode cX6_giveTeller 52 = .ok (.iinc 4 1, 3) := by decide +kernel
theorem dX6_giveTeller_55 : decode cX6_giveTeller 55 = .ok (.iinc 5 1, 3) := by decide +kernel
theorem dX6_giveTeller_58 : decode cX6_giveTeller 58 = .ok (.goto (-37), 3) := by decide +kernel
theorem dX6_giveTeller_61 : decode cX6_giveTeller 61 = .ok (.return_, 1) := by decide +kernel
theorem dX6_sendBehindAll_0 : decode cX6_sendBehindAll 0 = .ok (.aload_n 0, 1) := by decide +kernel
theorem dX6_sendBehindAll_1 : decode cX6_sendBehindAll 1 = .ok (.iload_n 1, 1) := by decide +kernel
theorem dX6_sendBehindAll_2 : decode cX6_sendBehindAll 2 = .ok (.invokevirtual 48, 3) := by decide +kernel
theorem dX6_sendBehindAll_5 : decode cX6_sendBehindAll 5 = .ok (.istore_n 2, 1) := by decide +kernel
theorem dX6_sendBehindAll_6 : decode cX6_sendBehindAll 6 = .ok (.iload_n 1, 1) := by decide +kernel
theorem dX6_sendBehindAll_7 : decode cX6_sendBehindAll 7 = .ok (.istore_n 3, 1) := by decide +kernel
theorem dX6_sendBehindAll_8 : decode cX6_sendBehindAll 8 = .ok (.iload_n 3, 1) := by decide +kernel
theorem dX6_sendBehindAll_9 : decode cX6_sendBehindAll 9 = .ok (.aload_n 0, 1) := by decide +kernel
theorem dX6_sendBehindAll_10 : decode cX6_sendBehindAll 10 = .ok (.getfield 31, 3) := by decide +kernel
theorem dX6_sendBehindAll_13 : decode cX6_sendBehindAll 13 = .ok (.iconst 1, 1) := by decide +kernel
theorem dX6_sendBehindAll_14 : decode cX6_sendBehindAll 14 = .ok (.isub, 1) := by decide +kernel
theorem dX6_sendBehindAll_15 : decode cX6_sendBehindAll 15 = .ok (.if_icmp .ge 24, 3) := by decide +kernel
theorem dX6_sendBehindAll_18 : decode cX6_sendBehindAll 18 = .ok (.aload_n 0, 1) := by decide +kernel
theorem dX6_sendBehindAll_19 : decode cX6_sendBehindAll 19 = .ok (.getfield 21, 3) := by decide +kernel
theorem dX6_sendBehindAll_22 : decode cX6_sendBehindAll 22 = .ok (.iload_n 3, 1) := by decide +kernel
theorem dX6_sendBehindAll_23 : decode cX6_sendBehindAll 23 = .ok (.aload_n 0, 1) := by decide +kernel
theorem dX6_sendBehindAll_24 : decode cX6_sendBehindAll 24 = .ok (.iload_n 3, 1) := by decide +kernel
theorem dX6_sendBehindAll_25 : decode cX6_sendBehindAll 25 = .ok (.iconst 1, 1) := by decide +kernel
theorem dX6_sendBehindAll_26 : decode cX6_sendBehindAll 26 = .ok (.iadd, 1) := by decide +kernel
theorem dX6_sendBehindAll_27 : decode cX6_sendBehindAll 27 = .ok (.invokevirtual 48, 3) := by decide +kernel
theorem dX6_sendBehindAll_30 : decode cX6_sendBehindAll 30 = .ok (.invokestatic 40, 3) := by decide +kernel
theorem dX6_sendBehindAll_33 : decode cX6_sendBehindAll 33 = .ok (.iinc 3 1, 3) := by decide +kernel
theorem dX6_sendBehindAll_36 : decode cX6_sendBehindAll 36 = .ok (.goto (-28), 3) := by decide +kernel
theorem dX6_sendBehindAll_39 : decode cX6_sendBehindAll 39 = .ok (.aload_n 0, 1) := by decide +kernel
theorem dX6_sendBehindAll_40 : decode cX6_sendBehindAll 40 = .ok (.getfield 21, 3) := by decide +kernel
theorem dX6_sendBehindAll_43 : decode cX6_sendBehindAll 43 = .ok (.aload_n 0, 1) := by decide +kernel
theorem dX6_sendBehindAll_44 : decode cX6_sendBehindAll 44 = .ok (.getfield 31, 3) := by decide +kernel
theorem dX6_sendBehindAll_47 : decode cX6_sendBehindAll 47 = .ok (.iconst 1, 1) := by decide +kernel
theorem dX6_sendBehindAll_48 : decode cX6_sendBehindAll 48 = .ok (.isub, 1) := by decide +kernel
theorem dX6_sendBehindAll_49 : decode cX6_sendBehindAll 49 = .ok (.iload_n 2, 1) := by decide +kernel
theorem dX6_sendBehindAll_50 : decode cX6_sendBehindAll 50 = .ok (.invokestatic 40, 3) := by decide +kernel
theorem dX6_sendBehindAll_53 : decode cX6_sendBehindAll 53 = .ok (.return_, 1) := by decide +kernel
theorem dX6_exchange_0 : decode cX6_exchange 0 = .ok (.aload_n 0, 1) := by decide +kernel
theorem dX6_exchange_1 : decode cX6_exchange 1 = .ok (.iload_n 1, 1) := by decide +kernel
theorem dX6_exchange_2 : decode cX6_exchange 2 = .ok (.invokevirtual 48, 3) := by decide +kernel
theorem dX6_exchange_5 : decode cX6_exchange 5 = .ok (.istore_n 2, 1) := by decide +kernel
theorem dX6_exchange_6 : decode cX6_exchange 6 = .ok (.aload_n 0, 1) := by decide +kernel
theorem dX6_exchange_7 : decode cX6_exchange 7 = .ok (.getfield 21, 3) := by decide +kernel
theorem dX6_exchange_10 : decode cX6_exchange 10 = .ok (.iload_n 1, 1) := by decide +kernel
theorem dX6_exchange_11 : decode cX6_exchange 11 = .ok (.aload_n 0, 1) := by decide +kernel
theorem dX6_exchange_12 : decode cX6_exchange 12 = .ok (.iload_n 1, 1) := by decide +kernel
theorem dX6_exchange_13 : decode cX6_exchange 13 = .ok (.iconst 1, 1) := by decide +kernel
theorem dX6_exchange_14 : decode cX6_exchange 14 = .ok (.iadd, 1) := by decide +kernel
theorem dX6_exchange_15 : decode cX6_exchange 15 = .ok (.invokevirtual 48, 3) := by decide +kernel
theorem dX6_exchange_18 : decode cX6_exchange 18 = .ok (.invokestatic 40, 3) := by decide +kernel
theorem dX6_exchange_21 : decode cX6_exchange 21 = .ok (.aload_n 0, 1) := by decide +kernel
theorem dX6_exchange_22 : decode cX6_exchange 22 = .ok (.getfield 21, 3) := by decide +kernel
theorem dX6_exchange_25 : decode cX6_exchange 25 = .ok (.iload_n 1, 1) := by decide +kernel
theorem dX6_exchange_26 : decode cX6_exchange 26 = .ok (.iconst 1, 1) := by decide +kernel
theorem dX6_exchange_27 : decode cX6_exchange 27 = .ok (.iadd, 1) := by decide +kernel
theorem dX6_exchange_28 : decode cX6_exchange 28 = .ok (.iload_n 2, 1) := by decide +kernel
theorem dX6_exchange_29 : decode cX6_exchange 29 = .ok (.invokestatic 40, 3) := by decide +kernel
theorem dX6_exchange_32 : decode cX6_exchange 32 = .ok (.return_, 1) := by decide +kernel
theorem dX7_init_0 : decode cX7_init 0 = .ok (.aload_n 0, 1) := by decide +kernel
theorem dX7_init_1 : decode cX7_init 1 = .ok (.invokespecial 3, 3) := by decide +kernel
theorem dX7_init_4 : decode cX7_init 4 = .ok (.aload_n 0, 1) := by decide +kernel
theorem dX7_init_5 : decode cX7_init 5 = .ok (.bipush 60, 2) := by decide +kernel
theorem dX7_init_7 : decode cX7_init 7 = .ok (.newarray .int, 2) := by decide +kernel
theorem dX7_init_9 : decode cX7_init 9 = .ok (.putfield 9, 3) := by decide +kernel
theorem dX7_init_12 : decode cX7_init 12 = .ok (.return_, 1) := by decide +kernel
theorem dX7_length_0 : decode cX7_length 0 = .ok (.aload_n 0, 1) := by decide +kernel
theorem dX7_length_1 : decode cX7_length 1 = .ok (.getfield 15, 3) := by decide +kernel
theorem dX7_length_4 : decode cX7_length 4 = .ok (.ireturn, 1) := by decide +kernel
theorem dX7_add_0 : decode cX7_add 0 = .ok (.aload_n 0, 1) := by decide +kernel
theorem dX7_add_1 : decode cX7_add 1 = .ok (.getfield 15, 3) := by decide +kernel
theorem dX7_add_4 : decode cX7_add 4 = .ok (.bipush 60, 2) := by decide +kernel
theorem dX7_add_6 : decode cX7_add 6 = .ok (.if_icmp .lt 5, 3) := by decide +kernel
theorem dX7_add_9 : decode cX7_add 9 = .ok (.iconst 0, 1) := by decide +kernel
theorem dX7_add_10 : decode cX7_add 10 = .ok (.ireturn, 1) := by decide +kernel
theorem dX7_add_11 : decode cX7_add 11 = .ok (.aload_n 0, 1) := by decide +kernel
theorem dX7_add_12 : decode cX7_add 12 = .ok (.getfield 9, 3) := by decide +kernel
theorem dX7_add_15 : decode cX7_add 15 = .ok (.aload_n 0, 1) := by decide +kernel
theorem dX7_add_16 : decode cX7_add 16 = .ok (.getfield 15, 3) := by decide +kernel
theorem dX7_add_19 : decode cX7_add 19 = .ok (.iload_n 1, 1) := by decide +kernel
theorem dX7_add_20 : decode cX7_add 20 = .ok (.invokestatic 19, 3) := by decide +kernel
theorem dX7_add_23 : decode cX7_add 23 = .ok (.aload_n 0, 1) := by decide +kernel
theorem dX7_add_24 : decode cX7_add 24 = .ok (.dup, 1) := by decide +kernel
theorem dX7_add_25 : decode cX7_add 25 = .ok (.getfield 15, 3) := by decide +kernel
theorem dX7_add_28 : decode cX7_add 28 = .ok (.iconst 1, 1) := by decide +kernel
theorem dX7_add_29 : decode cX7_add 29 = .ok (.iadd, 1) := by decide +kernel
theorem dX7_add_30 : decode cX7_add 30 = .ok (.putfield 15, 3) := by decide +kernel
theorem dX7_add_33 : decode cX7_add 33 = .ok (.iconst 1, 1) := by decide +kernel
theorem dX7_add_34 : decode cX7_add 34 = .ok (.ireturn, 1) := by decide +kernel
theorem dX7_clear_0 : decode cX7_clear 0 = .ok (.aload_n 0, 1) := by decide +kernel
theorem dX7_clear_1 : decode cX7_clear 1 = .ok (.iconst 0, 1) := by decide +kernel
theorem dX7_clear_2 : decode cX7_clear 2 = .ok (.putfield 15, 3) := by decide +kernel
theorem dX7_clear_5 : decode cX7_clear 5 = .ok (.return_, 1) := by decide +kernel
theorem dX7_firstFault_0 : decode cX7_firstFault 0 = .ok (.iconst 0, 1) := by decide +kernel
theorem dX7_firstFault_1 : decode cX7_firstFault 1 = .ok (.istore_n 1, 1) := by decide +kernel
theorem dX7_firstFault_2 : decode cX7_firstFault 2 = .ok (.iload_n 1, 1) := by decide +kernel
theorem dX7_firstFault_3 : decode cX7_firstFault 3 = .ok (.aload_n 0, 1) := by decide +kernel
theorem dX7_firstFault_4 : decode cX7_firstFault 4 = .ok (.getfield 15, 3) := by decide +kernel
theorem dX7_firstFault_7 : decode cX7_firstFault 7 = .ok (.if_icmp .ge 19, 3) := by decide +kernel
theorem dX7_firstFault_10 : decode cX7_firstFault 10 = .ok (.aload_n 0, 1) := by decide +kernel
theorem dX7_firstFault_11 : decode cX7_firstFault 11 = .ok (.iload_n 1, 1) := by decide +kernel
theorem dX7_firstFault_12 : decode cX7_firstFault 12 = .ok (.invokevirtual 23, 3) := by decide +kernel
theorem dX7_firstFault_15 : decode cX7_firstFault 15 = .ok (.ifCond .ne 5, 3) := by decide +kernel
theorem dX7_firstFault_18 : decode cX7_firstFault 18 = .ok (.iload_n 1, 1) := by decide +kernel
theorem dX7_firstFault_19 : decode cX7_firstFault 19 = .ok (.ireturn, 1) := by decide +kernel
theorem dX7_firstFault_20 : decode cX7_firstFault 20 = .ok (.iinc 1 1, 3) := by decide +kernel
theorem dX7_firstFault_23 : decode cX7_firstFault 23 = .ok (.goto (-21), 3) := by decide +kernel
theorem dX7_firstFault_26 : decode cX7_firstFault 26 = .ok (.aload_n 0, 1) := by decide +kernel
theorem dX7_firstFault_27 : decode cX7_firstFault 27 = .ok (.getfield 15, 3) := by decide +kernel
theorem dX7_firstFault_30 : decode cX7_firstFault 30 = .ok (.iconst 2, 1) := by decide +kernel
theorem dX7_firstFault_31 : decode cX7_firstFault 31 = .ok (.if_icmp .le 19, 3) := by decide +kernel
theorem dX7_firstFault_34 : decode cX7_firstFault 34 = .ok (.aload_n 0, 1) := by decide +kernel
theorem dX7_firstFault_35 : decode cX7_firstFault 35 = .ok (.getfield 15, 3) := by decide +kernel
theorem dX7_firstFault_38 : decode cX7_firstFault 38 = .ok (.aload_n 0, 1) := by decide +kernel
theorem dX7_firstFault_39 : decode cX7_firstFault 39 = .ok (.invokevirtual 27, 3) := by decide +kernel
theorem dX7_firstFault_42 : decode cX7_firstFault 42 = .ok (.if_icmp .ne 8, 3) := by decide +kernel
theorem dX7_firstFault_45 : decode cX7_firstFault 45 = .ok (.bipush (-9), 2) := by decide +kernel
theorem dX7_firstFault_47 : decode cX7_firstFault 47 = .ok (.goto 7, 3) := by decide +kernel
theorem dX7_firstFault_50 : decode cX7_firstFault 50 = .ok (.aload_n 0, 1) := by decide +kernel
theorem dX7_firstFault_51 : decode cX7_firstFault 51 = .ok (.getfield 15, 3) := by decide +kernel
theorem dX7_firstFault_54 : decode cX7_firstFault 54 = .ok (.ireturn, 1) := by decide +kernel
theorem dX7_tellInto_0 : decode cX7_tellInto 0 = .ok (.aload_n 0, 1) := by decide +kernel
theorem dX7_tellInto_1 : decode cX7_tellInto 1 = .ok (.iconst 2, 1) := by decide +kernel
theorem dX7_tellInto_2 : decode cX7_tellInto 2 = .ok (.invokevirtual 31, 3) := by decide +kernel
theorem dX7_tellInto_5 : decode cX7_tellInto 5 = .ok (.istore_n 2, 1) := by decide +kernel
theorem dX7_tellInto_6 : decode cX7_tellInto 6 = .ok (.aload_n 1, 1) := by decide +kernel
theorem dX7_tellInto_7 : decode cX7_tellInto 7 = .ok (.iload_n 2, 1) := by decide +kernel
theorem dX7_tellInto_8 : decode cX7_tellInto 8 = .ok (.aload_n 0, 1) := by decide +kernel
theorem dX7_tellInto_9 : decode cX7_tellInto 9 = .ok (.iconst 1, 1) := by decide +kernel
theorem dX7_tellInto_10 : decode cX7_tellInto 10 = .ok (.invokevirtual 31, 3) := by decide +kernel
theorem dX7_tellInto_13 : decode cX7_tellInto 13 = .ok (.invokevirtual 35, 3) := by decide +kernel
theorem dX7_tellInto_16 : decode cX7_tellInto 16 = .ok (.iconst 0, 1) := by decide +kernel
theorem dX7_tellInto_17 : decode cX7_tellInto 17 = .ok (.istore_n 3, 1) := by decide +kernel
theorem dX7_tellInto_18 : decode cX7_tellInto 18 = .ok (.iload_n 3, 1) := by decide +kernel
theorem dX7_tellInto_19 : decode cX7_tellInto 19 = .ok (.iload_n 2, 1) := by decide +kernel
theorem dX7_tellInto_20 : decode cX7_tellInto 20 = .ok (.if_icmp .ge 39, 3) := by decide +kernel
theorem dX7_tellInto_23 : decode cX7_tellInto 23 = .ok (.aload_n 1, 1) := by decide +kernel
theorem dX7_tellInto_24 : decode cX7_tellInto 24 = .ok (.iload_n 3, 1) := by decide +kernel
theorem dX7_tellInto_25 : decode cX7_tellInto 25 = .ok (.aload_n 0, 1) := by decide +kernel
theorem dX7_tellInto_26 : decode cX7_tellInto 26 = .ok (.iconst 3, 1) := by decide +kernel
theorem dX7_tellInto_27 : decode cX7_tellInto 27 = .ok (.iconst 2, 1) := by decide +kernel
theorem dX7_tellInto_28 : decode cX7_tellInto 28 = .ok (.iload_n 3, 1) := by decide +kernel
theorem dX7_tellInto_29 : decode cX7_tellInto 29 = .ok (.imul, 1) := by decide +kernel
theorem dX7_tellInto_30 : decode cX7_tellInto 30 = .ok (.iadd, 1) := by decide +kernel
theorem dX7_tellInto_31 : decode cX7_tellInto 31 = .ok (.invokevirtual 31, 3) := by decide +kernel
theorem dX7_tellInto_34 : decode cX7_tellInto 34 = .ok (.invokevirtual 41, 3) := by decide +kernel
theorem dX7_tellInto_37 : decode cX7_tellInto 37 = .ok (.aload_n 1, 1) := by decide +kernel
theorem dX7_tellInto_38 : decode cX7_tellInto 38 = .ok (.iload_n 3, 1) := by decide +kernel
theorem dX7_tellInto_39 : decode cX7_tellInto 39 = .ok (.aload_n 0, 1) := by decide +kernel
theorem dX7_tellInto_40 : decode cX7_tellInto 40 = .ok (.iconst 3, 1) := by decide +kernel
theorem dX7_tellInto_41 : decode cX7_tellInto 41 = .ok (.iconst 2, 1) := by decide +kernel
theorem dX7_tellInto_42 : decode cX7_tellInto 42 = .ok (.iload_n 3, 1) := by decide +kernel
theorem dX7_tellInto_43 : decode cX7_tellInto 43 = .ok (.imul, 1) := by decide +kernel
theorem dX7_tellInto_44 : decode cX7_tellInto 44 = .ok (.iadd, 1) := by decide +kernel
theorem dX7_tellInto_45 : decode cX7_tellInto 45 = .ok (.iconst 1, 1) := by decide +kernel
theorem dX7_tellInto_46 : decode cX7_tellInto 46 = .ok (.iadd, 1) := by decide +kernel
theorem dX7_tellInto_47 : decode cX7_tellInto 47 = .ok (.invokevirtual 31, 3) := by decide +kernel
theorem dX7_tellInto_50 : decode cX7_tellInto 50 = .ok (.invokevirtual 44, 3) := by decide +kernel
theorem dX7_tellInto_53 : decode cX7_tellInto 53 = .ok (.iinc 3 1, 3) := by decide +kernel
theorem dX7_tellInto_56 : decode cX7_tellInto 56 = .ok (.goto (-38), 3) := by decide +kernel
theorem dX7_tellInto_59 : decode cX7_tellInto 59 = .ok (.aload_n 0, 1) := by decide +kernel
theorem dX7_tellInto_60 : decode cX7_tellInto 60 = .ok (.invokevirtual 47, 3) := by decide +kernel
theorem dX7_tellInto_63 : decode cX7_tellInto 63 = .ok (.istore_n 3, 1) := by decide +kernel
theorem dX7_tellInto_64 : decode cX7_tellInto 64 = .ok (.iload_n 3, 1) := by decide +kernel
theorem dX7_tellInto_65 : decode cX7_tellInto 65 = .ok (.aload_n 0, 1) := by decide +kernel
theorem dX7_tellInto_66 : decode cX7_tellInto 66 = .ok (.getfield 15, 3) := by decide +kernel
theorem dX7_tellInto_69 : decode cX7_tellInto 69 = .ok (.if_icmp .ge 27, 3) := by decide +kernel
theorem dX7_tellInto_72 : decode cX7_tellInto 72 = .ok (.aload_n 1, 1) := by decide +kernel
theorem dX7_tellInto_73 : decode cX7_tellInto 73 = .ok (.aload_n 0, 1) := by decide +kernel
theorem dX7_tellInto_74 : decode cX7_tellInto 74 = .ok (.iload_n 3, 1) := by decide +kernel
theorem dX7_tellInto_75 : decode cX7_tellInto 75 = .ok (.iconst 1, 1) := by decide +kernel
theorem dX7_tellInto_76 : decode cX7_tellInto 76 = .ok (.iadd, 1) := by decide +kernel
theorem dX7_tellInto_77 : decode cX7_tellInto 77 = .ok (.invokevirtual 31, 3) := by decide +kernel
theorem dX7_tellInto_80 : decode cX7_tellInto 80 = .ok (.aload_n 0, 1) := by decide +kernel
theorem dX7_tellInto_81 : decode cX7_tellInto 81 = .ok (.iload_n 3, 1) := by decide +kernel
theorem dX7_tellInto_82 : decode cX7_tellInto 82 = .ok (.iconst 2, 1) := by decide +kernel
theorem dX7_tellInto_83 : decode cX7_tellInto 83 = .ok (.iadd, 1) := by decide +kernel
theorem dX7_tellInto_84 : decode cX7_tellInto 84 = .ok (.invokevirtual 31, 3) := by decide +kernel
theorem dX7_tellInto_87 : decode cX7_tellInto 87 = .ok (.invokevirtual 50, 3) := by decide +kernel
theorem dX7_tellInto_90 : decode cX7_tellInto 90 = .ok (.iinc 3 3, 3) := by decide +kernel
theorem dX7_tellInto_93 : decode cX7_tellInto 93 = .ok (.goto (-29), 3) := by decide +kernel
theorem dX7_tellInto_96 : decode cX7_tellInto 96 = .ok (.return_, 1) := by decide +kernel
theorem dX7_figureAt_0 : decode cX7_figureAt 0 = .ok (.aload_n 0, 1) := by decide +kernel
theorem dX7_figureAt_1 : decode cX7_figureAt 1 = .ok (.getfield 9, 3) := by decide +kernel
theorem dX7_figureAt_4 : decode cX7_figureAt 4 = .ok (.iload_n 1, 1) := by decide +kernel
theorem dX7_figureAt_5 : decode cX7_figureAt 5 = .ok (.invokestatic 53, 3) := by decide +kernel
theorem dX7_figureAt_8 : decode cX7_figureAt 8 = .ok (.bipush 48, 2) := by decide +kernel
theorem dX7_figureAt_10 : decode cX7_figureAt 10 = .ok (.isub, 1) := by decide +kernel
theorem dX7_figureAt_11 : decode cX7_figureAt 11 = .ok (.ireturn, 1) := by decide +kernel
theorem dX7_isFigure_0 : decode cX7_isFigure 0 = .ok (.aload_n 0, 1) := by decide +kernel
theorem dX7_isFigure_1 : decode cX7_isFigure 1 = .ok (.iload_n 1, 1) := by decide +kernel
theorem dX7_isFigure_2 : decode cX7_isFigure 2 = .ok (.invokevirtual 31, 3) := by decide +kernel
theorem dX7_isFigure_5 : decode cX7_isFigure 5 = .ok (.istore 4, 2) := by decide +kernel
theorem dX7_isFigure_7 : decode cX7_isFigure 7 = .ok (.iload 4, 2) := by decide +kernel
theorem dX7_isFigure_9 : decode cX7_isFigure 9 = .ok (.iload_n 2, 1) := by decide +kernel
theorem dX7_isFigure_10 : decode cX7_isFigure 10 = .ok (.if_icmp .lt 13, 3) := by decide +kernel
theorem dX7_isFigure_13 : decode cX7_isFigure 13 = .ok (.iload 4, 2) := by decide +kernel
theorem dX7_isFigure_15 : decode cX7_isFigure 15 = .ok (.iload_n 3, 1) := by decide +kernel
theorem dX7_isFigure_16 : decode cX7_isFigure 16 = .ok (.if_icmp .gt 7, 3) := by decide +kernel
theorem dX7_isFigure_19 : decode cX7_isFigure 19 = .ok (.iconst 1, 1) := by decide +kernel
theorem dX7_isFigure_20 : decode cX7_isFigure 20 = .ok (.goto 4, 3) := by decide +kernel
theorem dX7_isFigure_23 : decode cX7_isFigure 23 = .ok (.iconst 0, 1) := by decide +kernel
theorem dX7_isFigure_24 : decode cX7_isFigure 24 = .ok (.ireturn, 1) := by decide +kernel
theorem dX7_planStart_0 : decode cX7_planStart 0 = .ok (.iconst 3, 1) := by decide +kernel
theorem dX7_planStart_1 : decode cX7_planStart 1 = .ok (.iconst 2, 1) := by decide +kernel
theorem dX7_planStart_2 : decode cX7_planStart 2 = .ok (.aload_n 0, 1) := by decide +kernel
theorem dX7_planStart_3 : decode cX7_planStart 3 = .ok (.iconst 2, 1) := by decide +kernel
theorem dX7_planStart_4 : decode cX7_planStart 4 = .ok (.invokevirtual 31, 3) := by decide +kernel
theorem dX7_planStart_7 : decode cX7_planStart 7 = .ok (.imul, 1) := by decide +kernel
theorem dX7_planStart_8 : decode cX7_planStart 8 = .ok (.iadd, 1) := by decide +kernel
theorem dX7_planStart_9 : decode cX7_planStart 9 = .ok (.ireturn, 1) := by decide +kernel
theorem dX7_wholeLength_0 : decode cX7_wholeLength 0 = .ok (.aload_n 0, 1) := by decide +kernel
theorem dX7_wholeLength_1 : decode cX7_wholeLength 1 = .ok (.invokevirtual 47, 3) := by decide +kernel
theorem dX7_wholeLength_4 : decode cX7_wholeLength 4 = .ok (.iconst 3, 1) := by decide +kernel
theorem dX7_wholeLength_5 : decode cX7_wholeLength 5 = .ok (.aload_n 0, 1) := by decide +kernel
theorem dX7_wholeLength_6 : decode cX7_wholeLength 6 = .ok (.iconst 2, 1) := by decide +kernel
theorem dX7_wholeLength_7 : decode cX7_wholeLength 7 = .ok (.invokevirtual 31, 3) := by decide +kernel
theorem dX7_wholeLength_10 : decode cX7_wholeLength 10 = .ok (.iconst 1, 1) := by decide +kernel
theorem dX7_wholeLength_11 : decode cX7_wholeLength 11 = .ok (.isub, 1) := by decide +kernel
theorem dX7_wholeLength_12 : decode cX7_wholeLength 12 = .ok (.imul, 1) := by decide +kernel
theorem dX7_wholeLength_13 : decode cX7_wholeLength 13 = .ok (.iadd, 1) := by decide +kernel
theorem dX7_wholeLength_14 : decode cX7_wholeLength 14 = .ok (.ireturn, 1) := by decide +kernel
theorem dX7_fits_0 : decode cX7_fits 0 = .ok (.iload_n 1, 1) := by decide +kernel
theorem dX7_fits_1 : decode cX7_fits 1 = .ok (.iconst 3, 1) := by decide +kernel
theorem dX7_fits_2 : decode cX7_fits 2 = .ok (.if_icmp .ge 9, 3) := by decide +kernel
theorem dX7_fits_5 : decode cX7_fits 5 = .ok (.aload_n 0, 1) := by decide +kernel
theorem dX7_fits_6 : decode cX7_fits 6 = .ok (.iload_n 1, 1) := by decide +kernel
theorem dX7_fits_7 : decode cX7_fits 7 = .ok (.invokevirtual 57, 3) := by decide +kernel
theorem dX7_fits_10 : decode cX7_fits 10 = .ok (.ireturn, 1) := by decide +kernel
theorem dX7_fits_11 : decode cX7_fits 11 = .ok (.aload_n 0, 1) := by decide +kernel
theorem dX7_fits_12 : decode cX7_fits 12 = .ok (.invokevirtual 47, 3) := by decide +kernel
theorem dX7_fits_15 : decode cX7_fits 15 = .ok (.istore_n 2, 1) := by decide +kernel
theorem dX7_fits_16 : decode cX7_fits 16 = .ok (.iload_n 1, 1) := by decide +kernel
theorem dX7_fits_17 : decode cX7_fits 17 = .ok (.iload_n 2, 1) := by decide +kernel
theorem dX7_fits_18 : decode cX7_fits 18 = .ok (.if_icmp .ge 24, 3) := by decide +kernel
theorem dX7_fits_21 : decode cX7_fits 21 = .ok (.aload_n 0, 1) := by decide +kernel
theorem dX7_fits_22 : decode cX7_fits 22 = .ok (.iload_n 1, 1) := by decide +kernel
theorem dX7_fits_23 : decode cX7_fits 23 = .ok (.iconst 1, 1) := by decide +kernel
theorem dX7_fits_24 : decode cX7_fits 24 = .ok (.iload_n 1, 1) := by decide +kernel
theorem dX7_fits_25 : decode cX7_fits 25 = .ok (.iconst 3, 1) := by decide +kernel
theorem dX7_fits_26 : decode cX7_fits 26 = .ok (.isub, 1) := by decide +kernel
theorem dX7_fits_27 : decode cX7_fits 27 = .ok (.iconst 2, 1) := by decide +kernel
theorem dX7_fits_28 : decode cX7_fits 28 = .ok (.irem, 1) := by decide +kernel
theorem dX7_fits_29 : decode cX7_fits 29 = .ok (.ifCond .ne 8, 3) := by decide +kernel
theorem dX7_fits_32 : decode cX7_fits 32 = .ok (.bipush 9, 2) := by decide +kernel
theorem dX7_fits_34 : decode cX7_fits 34 = .ok (.goto 4, 3) := by decide +kernel
theorem dX7_fits_37 : decode cX7_fits 37 = .ok (.iconst 5, 1) := by decide +kernel
theorem dX7_fits_38 : decode cX7_fits 38 = .ok (.invokevirtual 60, 3) := by decide +kernel
theorem dX7_fits_41 : decode cX7_fits 41 = .ok (.ireturn, 1) := by decide +kernel
theorem dX7_fits_42 : decode cX7_fits 42 = .ok (.iload_n 1, 1) := by decide +kernel
theorem dX7_fits_43 : decode cX7_fits 43 = .ok (.aload_n 0, 1) := by decide +kernel
theorem dX7_fits_44 : decode cX7_fits 44 = .ok (.invokevirtual 27, 3) := by decide +kernel
theorem dX7_fits_47 : decode cX7_fits 47 = .ok (.if_icmp .ge 16, 3) := by decide +kernel
theorem dX7_fits_50 : decode cX7_fits 50 = .ok (.aload_n 0, 1) := by decide +kernel
theorem dX7_fits_51 : decode cX7_fits 51 = .ok (.iload_n 1, 1) := by decide +kernel
theorem dX7_fits_52 : decode cX7_fits 52 = .ok (.iload_n 2, 1) := by decide +kernel
theorem dX7_fits_53 : decode cX7_fits 53 = .ok (.invokevirtual 64, 3) := by decide +kernel
theorem dX7_fits_56 : decode cX7_fits 56 = .ok (.ifCond .eq 7, 3) := by decide +kernel
theorem dX7_fits_59 : decode cX7_fits 59 = .ok (.iconst 1, 1) := by decide +kernel
theorem dX7_fits_60 : decode cX7_fits 60 = .ok (.goto 4, 3) := by decide +kernel
theorem dX7_fits_63 : decode cX7_fits 63 = .ok (.iconst 0, 1) := by decide +kernel
theorem dX7_fits_64 : decode cX7_fits 64 = .ok (.ireturn, 1) := by decide +kernel
theorem dX7_fitsInHead_0 : decode cX7_fitsInHead 0 = .ok (.iload_n 1, 1) := by decide +kernel
theorem dX7_fitsInHead_1 : decode cX7_fitsInHead 1 = .ok (.lookupswitch 44 #[(1, 27), (2, 35)], 27) := by decide +kernel
theorem dX7_fitsInHead_28 : decode cX7_fitsInHead 28 = .ok (.aload_n 0, 1) := by decide +kernel
theorem dX7_fitsInHead_29 : decode cX7_fitsInHead 29 = .ok (.iload_n 1, 1) := by decide +kernel
theorem dX7_fitsInHead_30 : decode cX7_fitsInHead 30 = .ok (.iconst 1, 1) := by decide +kernel
theorem dX7_fitsInHead_31 : decode cX7_fitsInHead 31 = .ok (.iconst 3, 1) := by decide +kernel
theorem dX7_fitsInHead_32 : decode cX7_fitsInHead 32 = .ok (.invokevirtual 60, 3) := by decide +kernel
theorem dX7_fitsInHead_35 : decode cX7_fitsInHead 35 = .ok (.ireturn, 1) := by decide +kernel
theorem dX7_fitsInHead_36 : decode cX7_fitsInHead 36 = .ok (.aload_n 0, 1) := by decide +kernel
theorem dX7_fitsInHead_37 : decode cX7_fitsInHead 37 = .ok (.iload_n 1, 1) := by decide +kernel
theorem dX7_fitsInHead_38 : decode cX7_fitsInHead 38 = .ok (.iconst 1, 1) := by decide +kernel
theorem dX7_fitsInHead_39 : decode cX7_fitsInHead 39 = .ok (.bipush 8, 2) := by decide +kernel
theorem dX7_fitsInHead_41 : decode cX7_fitsInHead 41 = .ok (.invokevirtual 60, 3) := by decide +kernel
theorem dX7_fitsInHead_44 : decode cX7_fitsInHead 44 = .ok (.ireturn, 1) := by decide +kernel
theorem dX7_fitsInHead_45 : decode cX7_fitsInHead 45 = .ok (.aload_n 0, 1) := by decide +kernel
theorem dX7_fitsInHead_46 : decode cX7_fitsInHead 46 = .ok (.getfield 9, 3) := by decide +kernel
theorem dX7_fitsInHead_49 : decode cX7_fitsInHead 49 = .ok (.iload_n 1, 1) := by decide +kernel
theorem dX7_fitsInHead_50 : decode cX7_fitsInHead 50 = .ok (.invokestatic 53, 3) := by decide +kernel
theorem dX7_fitsInHead_53 : decode cX7_fitsInHead 53 = .ok (.bipush 84, 2) := by decide +kernel
theorem dX7_fitsInHead_55 : decode cX7_fitsInHead 55 = .ok (.if_icmp .ne 7, 3) := by decide +kernel
theorem dX7_fitsInHead_58 : decode cX7_fitsInHead 58 = .ok (.iconst 1, 1) := by decide +kernel
theorem dX7_fitsInHead_59 : decode cX7_fitsInHead 59 = .ok (.goto 4, 3) := by decide +kernel
theorem dX7_fitsInHead_62 : decode cX7_fitsInHead 62 = .ok (.iconst 0, 1) := by decide +kernel
theorem dX7_fitsInHead_63 : decode cX7_fitsInHead 63 = .ok (.ireturn, 1) := by decide +kernel
theorem dX7_fitsInPlan_0 : decode cX7_fitsInPlan 0 = .ok (.aload_n 0, 1) := by decide +kernel
theorem dX7_fitsInPlan_1 : decode cX7_fitsInPlan 1 = .ok (.iload_n 1, 1) := by decide +kernel
theorem dX7_fitsInPlan_2 : decode cX7_fitsInPlan 2 = .ok (.invokevirtual 31, 3) := by decide +kernel
theorem dX7_fitsInPlan_5 : decode cX7_fitsInPlan 5 = .ok (.istore_n 3, 1) := by decide +kernel
theorem dX7_fitsInPlan_6 : decode cX7_fitsInPlan 6 = .ok (.iload_n 1, 1) := by decide +kernel
theorem dX7_fitsInPlan_7 : decode cX7_fitsInPlan 7 = .ok (.iload_n 2, 1) := by decide +kernel
theorem dX7_fitsInPlan_8 : decode cX7_fitsInPlan 8 = .ok (.isub, 1) := by decide +kernel
theorem dX7_fitsInPlan_9 : decode cX7_fitsInPlan 9 = .ok (.iconst 3, 1) := by decide +kernel
theorem dX7_fitsInPlan_10 : decode cX7_fitsInPlan 10 = .ok (.irem, 1) := by decide +kernel
theorem dX7_fitsInPlan_11 : decode cX7_fitsInPlan 11 = .ok (.lookupswitch 76 #[(0, 25), (1, 44)], 25) := by decide +kernel
theorem dX7_fitsInPlan_36 : decode cX7_fitsInPlan 36 = .ok (.aload_n 0, 1) := by decide +kernel
theorem dX7_fitsInPlan_37 : decode cX7_fitsInPlan 37 = .ok (.getfield 9, 3) := by decide +kernel
theorem dX7_fitsInPlan_40 : decode cX7_fitsInPlan 40 = .ok (.iload_n 1, 1) := by decide +kernel
theorem dX7_fitsInPlan_41 : decode cX7_fitsInPlan 41 = .ok (.invokestatic 53, 3) := by decide +kernel
theorem dX7_fitsInPlan_44 : decode cX7_fitsInPlan 44 = .ok (.bipush 116, 2) := by decide +kernel
theorem dX7_fitsInPlan_46 : decode cX7_fitsInPlan 46 = .ok (.if_icmp .ne 7, 3) := by decide +kernel
theorem dX7_fitsInPlan_49 : decode cX7_fitsInPlan 49 = .ok (.iconst 1, 1) := by decide +kernel
theorem dX7_fitsInPlan_50 : decode cX7_fitsInPlan 50 = .ok (.goto 4, 3) := by decide +kernel
theorem dX7_fitsInPlan_53 : decode cX7_fitsInPlan 53 = .ok (.iconst 0, 1) := by decide +kernel
theorem dX7_fitsInPlan_54 : decode cX7_fitsInPlan 54 = .ok (.ireturn, 1) := by decide +kernel
theorem dX7_fitsInPlan_55 : decode cX7_fitsInPlan 55 = .ok (.aload_n 0, 1) := by decide +kernel
theorem dX7_fitsInPlan_56 : decode cX7_fitsInPlan 56 = .ok (.iload_n 1, 1) := by decide +kernel
theorem dX7_fitsInPlan_57 : decode cX7_fitsInPlan 57 = .ok (.iconst 1, 1) := by decide +kernel
theorem dX7_fitsInPlan_58 : decode cX7_fitsInPlan 58 = .ok (.aload_n 0, 1) := by decide +kernel
theorem dX7_fitsInPlan_59 : decode cX7_fitsInPlan 59 = .ok (.iconst 2, 1) := by decide +kernel
theorem dX7_fitsInPlan_60 : decode cX7_fitsInPlan 60 = .ok (.invokevirtual 31, 3) := by decide +kernel
theorem dX7_fitsInPlan_63 : decode cX7_fitsInPlan 63 = .ok (.iconst 1, 1) := by decide +kernel
theorem dX7_fitsInPlan_64 : decode cX7_fitsInPlan 64 = .ok (.isub, 1) := by decide +kernel
theorem dX7_fitsInPlan_65 : decode cX7_fitsInPlan 65 = .ok (.invokevirtual 60, 3) := by decide +kernel
theorem dX7_fitsInPlan_68 : decode cX7_fitsInPlan 68 = .ok (.ifCond .eq 17, 3) := by decide +kernel
theorem dX7_fitsInPlan_71 : decode cX7_fitsInPlan 71 = .ok (.aload_n 0, 1) := by decide +kernel
theorem dX7_fitsInPlan_72 : decode cX7_fitsInPlan 72 = .ok (.iload_n 3, 1) := by decide +kernel
theorem dX7_fitsInPlan_73 : decode cX7_fitsInPlan 73 = .ok (.iload_n 2, 1) := by decide +kernel
theorem dX7_fitsInPlan_74 : decode cX7_fitsInPlan 74 = .ok (.iload_n 1, 1) := by decide +kernel
theorem dX7_fitsInPlan_75 : decode cX7_fitsInPlan 75 = .ok (.invokevirtual 68, 3) := by decide +kernel
theorem dX7_fitsInPlan_78 : decode cX7_fitsInPlan 78 = .ok (.ifCond .ne 7, 3) := by decide +kernel
theorem dX7_fitsInPlan_81 : decode cX7_fitsInPlan 81 = .ok (.iconst 1, 1) := by decide +kernel
theorem dX7_fitsInPlan_82 : decode cX7_fitsInPlan 82 = .ok (.goto 4, 3) := by decide +kernel
theorem dX7_fitsInPlan_85 : decode cX7_fitsInPlan 85 = .ok (.iconst 0, 1) := by decide +kernel
theorem dX7_fitsInPlan_86 : decode cX7_fitsInPlan 86 = .ok (.ireturn, 1) := by decide +kernel
theorem dX7_fitsInPlan_87 : decode cX7_fitsInPlan 87 = .ok (.iload_n 3, 1) := by decide +kernel
theorem dX7_fitsInPlan_88 : decode cX7_fitsInPlan 88 = .ok (.ifCond .eq 15, 3) := by decide +kernel
theorem dX7_fitsInPlan_91 : decode cX7_fitsInPlan 91 = .ok (.aload_n 0, 1) := by decide +kernel
theorem dX7_fitsInPlan_92 : decode cX7_fitsInPlan 92 = .ok (.iload_n 3, 1) := by decide +kernel
theorem dX7_fitsInPlan_93 : decode cX7_fitsInPlan 93 = .ok (.iload_n 2, 1) := by decide +kernel
theorem dX7_fitsInPlan_94 : decode cX7_fitsInPlan 94 = .ok (.iload_n 1, 1) := by decide +kernel
theorem dX7_fitsInPlan_95 : decode cX7_fitsInPlan 95 = .ok (.iconst 1, 1) := by decide +kernel
theorem dX7_fitsInPlan_96 : decode cX7_fitsInPlan 96 = .ok (.isub, 1) := by decide +kernel
theorem dX7_fitsInPlan_97 : decode cX7_fitsInPlan 97 = .ok (.invokevirtual 68, 3) := by decide +kernel
theorem dX7_fitsInPlan_100 : decode cX7_fitsInPlan 100 = .ok (.ifCond .eq 7, 3) := by decide +kernel
theorem dX7_fitsInPlan_103 : decode cX7_fitsInPlan 103 = .ok (.iconst 1, 1) := by decide +kernel
theorem dX7_fitsInPlan_104 : decode cX7_fitsInPlan 104 = .ok (.goto 4, 3) := by decide +kernel
theorem dX7_fitsInPlan_107 : decode cX7_fitsInPlan 107 = .ok (.iconst 0, 1) := by decide +kernel
theorem dX7_fitsInPlan_108 : decode cX7_fitsInPlan 108 = .ok (.ireturn, 1) := by decide +kernel
theorem dX7_stands_0 : decode cX7_stands 0 = .ok (.iload_n 2, 1) := by decide +kernel
theorem dX7_stands_1 : decode cX7_stands 1 = .ok (.iconst 1, 1) := by decide +kernel
theorem dX7_stands_2 : decode cX7_stands 2 = .ok (.iadd, 1) := by decide +kernel
theorem dX7_stands_3 : decode cX7_stands 3 = .ok (.istore 4, 2) := by decide +kernel
theorem dX7_stands_5 : decode cX7_stands 5 = .ok (.iload 4, 2) := by decide +kernel
theorem dX7_stands_7 : decode cX7_stands 7 = .ok (.iload_n 3, 1) := by decide +kernel
theorem dX7_stands_8 : decode cX7_stands 8 = .ok (.if_icmp .ge 21, 3) := by decide +kernel
theorem dX7_stands_11 : decode cX7_stands 11 = .ok (.aload_n 0, 1) := by decide +kernel
theorem dX7_stands_12 : decode cX7_stands 12 = .ok (.iload 4, 2) := by decide +kernel
theorem dX7_stands_14 : decode cX7_stands 14 = .ok (.invokevirtual 31, 3) := by decide +kernel
theorem dX7_stands_17 : decode cX7_stands 17 = .ok (.iload_n 1, 1) := by decide +kernel
theorem dX7_stands_18 : decode cX7_stands 18 = .ok (.if_icmp .ne 5, 3) := by decide +kernel
theorem dX7_stands_21 : decode cX7_stands 21 = .ok (.iconst 1, 1) := by decide +kernel
theorem dX7_stands_22 : decode cX7_stands 22 = .ok (.ireturn, 1) := by decide +kernel
theorem dX7_stands_23 : decode cX7_stands 23 = .ok (.iinc 4 3, 3) := by decide +kernel
theorem dX7_stands_26 : decode cX7_stands 26 = .ok (.goto (-21), 3) := by decide +kernel
theorem dX7_stands_29 : decode cX7_stands 29 = .ok (.iconst 0, 1) := by decide +kernel
theorem dX7_stands_30 : decode cX7_stands 30 = .ok (.ireturn, 1) := by decide +kernel
theorem dX8_init_0 : decode cX8_init 0 = .ok (.aload_n 0, 1) := by decide +kernel
theorem dX8_init_1 : decode cX8_init 1 = .ok (.invokespecial 3, 3) := by decide +kernel
theorem dX8_init_4 : decode cX8_init 4 = .ok (.aload_n 0, 1) := by decide +kernel
theorem dX8_init_5 : decode cX8_init 5 = .ok (.bipush 24, 2) := by decide +kernel
theorem dX8_init_7 : decode cX8_init 7 = .ok (.newarray .int, 2) := by decide +kernel
theorem dX8_init_9 : decode cX8_init 9 = .ok (.putfield 9, 3) := by decide +kernel
theorem dX8_init_12 : decode cX8_init 12 = .ok (.aload_n 0, 1) := by decide +kernel
theorem dX8_init_13 : decode cX8_init 13 = .ok (.bipush 8, 2) := by decide +kernel
theorem dX8_init_15 : decode cX8_init 15 = .ok (.newarray .int, 2) := by decide +kernel
theorem dX8_init_17 : decode cX8_init 17 = .ok (.putfield 15, 3) := by decide +kernel
theorem dX8_init_20 : decode cX8_init 20 = .ok (.return_, 1) := by decide +kernel
theorem dX8_follow_0 : decode cX8_follow 0 = .ok (.iconst 0, 1) := by decide +kernel
theorem dX8_follow_1 : decode cX8_follow 1 = .ok (.istore_n 2, 1) := by decide +kernel
theorem dX8_follow_2 : decode cX8_follow 2 = .ok (.iload_n 2, 1) := by decide +kernel
theorem dX8_follow_3 : decode cX8_follow 3 = .ok (.bipush 8, 2) := by decide +kernel
theorem dX8_follow_5 : decode cX8_follow 5 = .ok (.if_icmp .ge 18, 3) := by decide +kernel
theorem dX8_follow_8 : decode cX8_follow 8 = .ok (.aload_n 0, 1) := by decide +kernel
theorem dX8_follow_9 : decode cX8_follow 9 = .ok (.getfield 15, 3) := by decide +kernel
theorem dX8_follow_12 : decode cX8_follow 12 = .ok (.iload_n 2, 1) := by decide +kernel
theorem dX8_follow_13 : decode cX8_follow 13 = .ok (.iconst 0, 1) := by decide +kernel
theorem dX8_follow_14 : decode cX8_follow 14 = .ok (.invokestatic 18, 3) := by decide +kernel
theorem dX8_follow_17 : decode cX8_follow 17 = .ok (.iinc 2 1, 3) := by decide +kernel
theorem dX8_follow_20 : decode cX8_follow 20 = .ok (.goto (-18), 3) := by decide +kernel
theorem dX8_follow_23 : decode cX8_follow 23 = .ok (.iconst 0, 1) := by decide +kernel
theorem dX8_follow_24 : decode cX8_follow 24 = .ok (.istore_n 2, 1) := by decide +kernel
theorem dX8_follow_25 : decode cX8_follow 25 = .ok (.iconst 0, 1) := by decide +kernel
theorem dX8_follow_26 : decode cX8_follow 26 = .ok (.istore_n 3, 1) := by decide +kernel
theorem dX8_follow_27 : decode cX8_follow 27 = .ok (.iload_n 3, 1) := by decide +kernel
theorem dX8_follow_28 : decode cX8_follow 28 = .ok (.aload_n 1, 1) := by decide +kernel
theorem dX8_follow_29 : decode cX8_follow 29 = .ok (.invokevirtual 22, 3) := by decide +kernel
theorem dX8_follow_32 : decode cX8_follow 32 = .ok (.if_icmp .ge 44, 3) := by decide +kernel
theorem dX8_follow_35 : decode cX8_follow 35 = .ok (.iconst 0, 1) := by decide +kernel
theorem dX8_follow_36 : decode cX8_follow 36 = .ok (.istore 4, 2) := by decide +kernel
theorem dX8_follow_38 : decode cX8_follow 38 = .ok (.iload 4, 2) := by decide +kernel
theorem dX8_follow_40 : decode cX8_follow 40 = .ok (.aload_n 1, 1) := by decide +kernel
theorem dX8_follow_41 : decode cX8_follow 41 = .ok (.invokevirtual 28, 3) := by decide +kernel
theorem dX8_follow_44 : decode cX8_follow 44 = .ok (.if_icmp .ge 26, 3) := by decide +kernel
theorem dX8_follow_47 : decode cX8_follow 47 = .ok (.iload_n 2, 1) := by decide +kernel
theorem dX8_follow_48 : decode cX8_follow 48 = .ok (.aload_n 0, 1) := by decide +kernel
theorem dX8_follow_49 : decode cX8_follow 49 = .ok (.aload_n 1, 1) := by decide +kernel
theorem dX8_follow_50 : decode cX8_follow 50 = .ok (.aload_n 1, 1) := by decide +kernel
theorem dX8_follow_51 : decode cX8_follow 51 = .ok (.iload 4, 2) := by decide +kernel
theorem dX8_follow_53 : decode cX8_follow 53 = .ok (.invokevirtual 31, 3) := by decide +kernel
theorem dX8_follow_56 : decode cX8_follow 56 = .ok (.iload_n 3, 1) := by decide +kernel
theorem dX8_follow_57 : decode cX8_follow 57 = .ok (.invokevirtual 35, 3) := by decide +kernel
theorem dX8_follow_60 : decode cX8_follow 60 = .ok (.invokestatic 39, 3) := by decide +kernel
theorem dX8_follow_63 : decode cX8_follow 63 = .ok (.istore_n 2, 1) := by decide +kernel
theorem dX8_follow_64 : decode cX8_follow 64 = .ok (.iinc 4 1, 3) := by decide +kernel
theorem dX8_follow_67 : decode cX8_follow 67 = .ok (.goto (-29), 3) := by decide +kernel
theorem dX8_follow_70 : decode cX8_follow 70 = .ok (.iinc 3 1, 3) := by decide +kernel
theorem dX8_follow_73 : decode cX8_follow 73 = .ok (.goto (-46), 3) := by decide +kernel
theorem dX8_follow_76 : decode cX8_follow 76 = .ok (.iload_n 2, 1) := by decide +kernel
theorem dX8_follow_77 : decode cX8_follow 77 = .ok (.ireturn, 1) := by decide +kernel
theorem dX8_send_0 : decode cX8_send 0 = .ok (.aload_n 1, 1) := by decide +kernel
theorem dX8_send_1 : decode cX8_send 1 = .ok (.iload_n 2, 1) := by decide +kernel
theorem dX8_send_2 : decode cX8_send 2 = .ok (.invokevirtual 45, 3) := by decide +kernel
theorem dX8_send_5 : decode cX8_send 5 = .ok (.istore 4, 2) := by decide +kernel
theorem dX8_send_7 : decode cX8_send 7 = .ok (.aload_n 0, 1) := by decide +kernel
theorem dX8_send_8 : decode cX8_send 8 = .ok (.iload 4, 2) := by decide +kernel
theorem dX8_send_10 : decode cX8_send 10 = .ok (.iload_n 3, 1) := by decide +kernel
theorem dX8_send_11 : decode cX8_send 11 = .ok (.invokevirtual 48, 3) := by decide +kernel
theorem dX8_send_14 : decode cX8_send 14 = .ok (.aload_n 0, 1) := by decide +kernel
theorem dX8_send_15 : decode cX8_send 15 = .ok (.getfield 15, 3) := by decide +kernel
theorem dX8_send_18 : decode cX8_send 18 = .ok (.iload 4, 2) := by decide +kernel
theorem dX8_send_20 : decode cX8_send 20 = .ok (.invokestatic 51, 3) := by decide +kernel
theorem dX8_send_23 : decode cX8_send 23 = .ok (.invokestatic 39, 3) := by decide +kernel
theorem dX8_send_26 : decode cX8_send 26 = .ok (.istore 5, 2) := by decide +kernel
theorem dX8_send_28 : decode cX8_send 28 = .ok (.iload 5, 2) := by decide +kernel
theorem dX8_send_30 : decode cX8_send 30 = .ok (.aload_n 1, 1) := by decide +kernel
theorem dX8_send_31 : decode cX8_send 31 = .ok (.iload 4, 2) := by decide +kernel
theorem dX8_send_33 : decode cX8_send 33 = .ok (.invokevirtual 55, 3) := by decide +kernel
theorem dX8_send_36 : decode cX8_send 36 = .ok (.iadd, 1) := by decide +kernel
theorem dX8_send_37 : decode cX8_send 37 = .ok (.istore 6, 2) := by decide +kernel
theorem dX8_send_39 : decode cX8_send 39 = .ok (.aload_n 0, 1) := by decide +kernel
theorem dX8_send_40 : decode cX8_send 40 = .ok (.getfield 15, 3) := by decide +kernel
theorem dX8_send_43 : decode cX8_send 43 = .ok (.iload 4, 2) := by decide +kernel
theorem dX8_send_45 : decode cX8_send 45 = .ok (.iload 5, 2) := by decide +kernel
theorem dX8_send_47 : decode cX8_send 47 = .ok (.aload_n 1, 1) := by decide +kernel
theorem dX8_send_48 : decode cX8_send 48 = .ok (.iload 4, 2) := by decide +kernel
theorem dX8_send_50 : decode cX8_send 50 = .ok (.invokevirtual 58, 3) := by decide +kernel
theorem dX8_send_53 : decode cX8_send 53 = .ok (.iadd, 1) := by decide +kernel
theorem dX8_send_54 : decode cX8_send 54 = .ok (.invokestatic 18, 3) := by decide +kernel
theorem dX8_send_57 : decode cX8_send 57 = .ok (.aload_n 0, 1) := by decide +kernel
theorem dX8_send_58 : decode cX8_send 58 = .ok (.getfield 9, 3) := by decide +kernel
theorem dX8_send_61 : decode cX8_send 61 = .ok (.iload_n 3, 1) := by decide +kernel
theorem dX8_send_62 : decode cX8_send 62 = .ok (.bipush 8, 2) := by decide +kernel
theorem dX8_send_64 : decode cX8_send 64 = .ok (.imul, 1) := by decide +kernel
theorem dX8_send_65 : decode cX8_send 65 = .ok (.iload_n 2, 1) := by decide +kernel
theorem dX8_send_66 : decode cX8_send 66 = .ok (.iadd, 1) := by decide +kernel
theorem dX8_send_67 : decode cX8_send 67 = .ok (.iload 6, 2) := by decide +kernel
theorem dX8_send_69 : decode cX8_send 69 = .ok (.invokestatic 18, 3) := by decide +kernel
theorem dX8_send_72 : decode cX8_send 72 = .ok (.iload 6, 2) := by decide +kernel
theorem dX8_send_74 : decode cX8_send 74 = .ok (.ireturn, 1) := by decide +kernel
theorem dX8_tickOf_0 : decode cX8_tickOf 0 = .ok (.aload_n 0, 1) := by decide +kernel
theorem dX8_tickOf_1 : decode cX8_tickOf 1 = .ok (.getfield 9, 3) := by decide +kernel
theorem dX8_tickOf_4 : decode cX8_tickOf 4 = .ok (.iload_n 2, 1) := by decide +kernel
theorem dX8_tickOf_5 : decode cX8_tickOf 5 = .ok (.bipush 8, 2) := by decide +kernel
theorem dX8_tickOf_7 : decode cX8_tickOf 7 = .ok (.imul, 1) := by decide +kernel
theorem dX8_tickOf_8 : decode cX8_tickOf 8 = .ok (.iload_n 1, 1) := by decide +kernel
theorem dX8_tickOf_9 : decode cX8_tickOf 9 = .ok (.iadd, 1) := by decide +kernel
theorem dX8_tickOf_10 : decode cX8_tickOf 10 = .ok (.invokestatic 51, 3) := by decide +kernel
theorem dX8_tickOf_13 : decode cX8_tickOf 13 = .ok (.ireturn, 1) := by decide +kernel
theorem dX9_init_0 : decode cX9_init 0 = .ok (.aload_n 0, 1) := by decide +kernel
theorem dX9_init_1 : decode cX9_init 1 = .ok (.invokespecial 1, 3) := by decide +kernel
theorem dX9_init_4 : decode cX9_init 4 = .ok (.aload_n 0, 1) := by decide +kernel
theorem dX9_init_5 : decode cX9_init 5 = .ok (.new 7, 3) := by decide +kernel
theorem dX9_init_8 : decode cX9_init 8 = .ok (.dup, 1) := by decide +kernel
theorem dX9_init_9 : decode cX9_init 9 = .ok (.invokespecial 9, 3) := by decide +kernel
theorem dX9_init_12 : decode cX9_init 12 = .ok (.putfield 10, 3) := by decide +kernel
theorem dX9_init_15 : decode cX9_init 15 = .ok (.aload_n 0, 1) := by decide +kernel
theorem dX9_init_16 : decode cX9_init 16 = .ok (.new 7, 3) := by decide +kernel
theorem dX9_init_19 : decode cX9_init 19 = .ok (.dup, 1) := by decide +kernel
theorem dX9_init_20 : decode cX9_init 20 = .ok (.invokespecial 9, 3) := by decide +kernel
theorem dX9_init_23 : decode cX9_init 23 = .ok (.putfield 16, 3) := by decide +kernel
theorem dX9_init_26 : decode cX9_init 26 = .ok (.aload_n 0, 1) := by decide +kernel
theorem dX9_init_27 : decode cX9_init 27 = .ok (.new 19, 3) := by decide +kernel
theorem dX9_init_30 : decode cX9_init 30 = .ok (.dup, 1) := by decide +kernel
theorem dX9_init_31 : decode cX9_init 31 = .ok (.invokespecial 21, 3) := by decide +kernel
theorem dX9_init_34 : decode cX9_init 34 = .ok (.putfield 22, 3) := by decide +kernel
theorem dX9_init_37 : decode cX9_init 37 = .ok (.aload_n 0, 1) := by decide +kernel
theorem dX9_init_38 : decode cX9_init 38 = .ok (.new 26, 3) := by decide +kernel
theorem dX9_init_41 : decode cX9_init 41 = .ok (.dup, 1) := by decide +kernel
theorem dX9_init_42 : decode cX9_init 42 = .ok (.invokespecial 28, 3) := by decide +kernel
theorem dX9_init_45 : decode cX9_init 45 = .ok (.putfield 29, 3) := by decide +kernel
theorem dX9_init_48 : decode cX9_init 48 = .ok (.aload_n 0, 1) := by decide +kernel
theorem dX9_init_49 : decode cX9_init 49 = .ok (.new 33, 3) := by decide +kernel
theorem dX9_init_52 : decode cX9_init 52 = .ok (.dup, 1) := by decide +kernel
theorem dX9_init_53 : decode cX9_init 53 = .ok (.invokespecial 35, 3) := by decide +kernel
theorem dX9_init_56 : decode cX9_init 56 = .ok (.putfield 36, 3) := by decide +kernel
theorem dX9_init_59 : decode cX9_init 59 = .ok (.aload_n 0, 1) := by decide +kernel
theorem dX9_init_60 : decode cX9_init 60 = .ok (.new 40, 3) := by decide +kernel
theorem dX9_init_63 : decode cX9_init 63 = .ok (.dup, 1) := by decide +kernel
theorem dX9_init_64 : decode cX9_init 64 = .ok (.invokespecial 42, 3) := by decide +kernel
theorem dX9_init_67 : decode cX9_init 67 = .ok (.putfield 43, 3) := by decide +kernel
theorem dX9_init_70 : decode cX9_init 70 = .ok (.aload_n 0, 1) := by decide +kernel
theorem dX9_init_71 : decode cX9_init 71 = .ok (.new 47, 3) := by decide +kernel
theorem dX9_init_74 : decode cX9_init 74 = .ok (.dup, 1) := by decide +kernel
theorem dX9_init_75 : decode cX9_init 75 = .ok (.invokespecial 49, 3) := by decide +kernel
theorem dX9_init_78 : decode cX9_init 78 = .ok (.putfield 50, 3) := by decide +kernel
theorem dX9_init_81 : decode cX9_init 81 = .ok (.aload_n 0, 1) := by decide +kernel
theorem dX9_init_82 : decode cX9_init 82 = .ok (.new 54, 3) := by decide +kernel
theorem dX9_init_85 : decode cX9_init 85 = .ok (.dup, 1) := by decide +kernel
theorem dX9_init_86 : decode cX9_init 86 = .ok (.invokespecial 56, 3) := by decide +kernel
theorem dX9_init_89 : decode cX9_init 89 = .ok (.putfield 57, 3) := by decide +kernel
theorem dX9_init_92 : decode cX9_init 92 = .ok (.aload_n 0, 1) := by decide +kernel
theorem dX9_init_93 : decode cX9_init 93 = .ok (.new 61, 3) := by decide +kernel
theorem dX9_init_96 : decode cX9_init 96 = .ok (.dup, 1) := by decide +kernel
theorem dX9_init_97 : decode cX9_init 97 = .ok (.invokespecial 63, 3) := by decide +kernel
theorem dX9_init_100 : decode cX9_init 100 = .ok (.putfield 64, 3) := by decide +kernel
theorem dX9_init_103 : decode cX9_init 103 = .ok (.aload_n 0, 1) := by decide +kernel
theorem dX9_init_104 : decode cX9_init 104 = .ok (.iconst 4, 1) := by decide +kernel
theorem dX9_init_105 : decode cX9_init 105 = .ok (.newarray .int, 2) := by decide +kernel
theorem dX9_init_107 : decode cX9_init 107 = .ok (.putfield 68, 3) := by decide +kernel
theorem dX9_init_110 : decode cX9_init 110 = .ok (.return_, 1) := by decide +kernel
theorem dX9_write_0 : decode cX9_write 0 = .ok (.iload_n 1, 1) := by decide +kernel
theorem dX9_write_1 : decode cX9_write 1 = .ok (.ifCond .lt 10, 3) := by decide +kernel
theorem dX9_write_4 : decode cX9_write 4 = .ok (.iload_n 1, 1) := by decide +kernel
theorem dX9_write_5 : decode cX9_write 5 = .ok (.sipush 255, 3) := by decide +kernel
theorem dX9_write_8 : decode cX9_write 8 = .ok (.if_icmp .le 6, 3) := by decide +kernel
theorem dX9_write_11 : decode cX9_write 11 = .ok (.bipush (-2), 2) := by decide +kernel
theorem dX9_write_13 : decode cX9_write 13 = .ok (.ireturn, 1) := by decide +kernel
theorem dX9_write_14 : decode cX9_write 14 = .ok (.aload_n 0, 1) := by decide +kernel
theorem dX9_write_15 : decode cX9_write 15 = .ok (.getfield 43, 3) := by decide +kernel
theorem dX9_write_18 : decode cX9_write 18 = .ok (.iload_n 1, 1) := by decide +kernel
theorem dX9_write_19 : decode cX9_write 19 = .ok (.invokevirtual 72, 3) := by decide +kernel
theorem dX9_write_22 : decode cX9_write 22 = .ok (.ifCond .eq 13, 3) := by decide +kernel
theorem dX9_write_25 : decode cX9_write 25 = .ok (.aload_n 0, 1) := by decide +kernel
theorem dX9_write_26 : decode cX9_write 26 = .ok (.getfield 43, 3) := by decide +kernel
theorem dX9_write_29 : decode cX9_write 29 = .ok (.invokevirtual 76, 3) := by decide +kernel
theorem dX9_write_32 : decode cX9_write 32 = .ok (.goto 5, 3) := by decide +kernel
theorem dX9_write_35 : decode cX9_write 35 = .ok (.bipush (-4), 2) := by decide +kernel
theorem dX9_write_37 : decode cX9_write 37 = .ok (.ireturn, 1) := by decide +kernel
theorem dX9_wipe_0 : decode cX9_wipe 0 = .ok (.aload_n 0, 1) := by decide +kernel
theorem dX9_wipe_1 : decode cX9_wipe 1 = .ok (.getfield 43, 3) := by decide +kernel
theorem dX9_wipe_4 : decode cX9_wipe 4 = .ok (.invokevirtual 76, 3) := by decide +kernel
theorem dX9_wipe_7 : decode cX9_wipe 7 = .ok (.istore_n 1, 1) := by decide +kernel
theorem dX9_wipe_8 : decode cX9_wipe 8 = .ok (.aload_n 0, 1) := by decide +kernel
theorem dX9_wipe_9 : decode cX9_wipe 9 = .ok (.getfield 43, 3) := by decide +kernel
theorem dX9_wipe_12 : decode cX9_wipe 12 = .ok (.invokevirtual 80, 3) := by decide +kernel
theorem dX9_wipe_15 : decode cX9_wipe 15 = .ok (.iload_n 1, 1) := by decide +kernel
theorem dX9_wipe_16 : decode cX9_wipe 16 = .ok (.ireturn, 1) := by decide +kernel
theorem dX9_fault_0 : decode cX9_fault 0 = .ok (.aload_n 0, 1) := by decide +kernel
theorem dX9_fault_1 : decode cX9_fault 1 = .ok (.getfield 43, 3) := by decide +kernel
theorem dX9_fault_4 : decode cX9_fault 4 = .ok (.invokevirtual 83, 3) := by decide +kernel
theorem dX9_fault_7 : decode cX9_fault 7 = .ok (.ireturn, 1) := by decide +kernel
theorem dX9_telling_0 : decode cX9_telling 0 = .ok (.aload_n 0, 1) := by decide +kernel
theorem dX9_telling_1 : decode cX9_telling 1 = .ok (.getfield 43, 3) := by decide +kernel
theorem dX9_telling_4 : decode cX9_telling 4 = .ok (.invokevirtual 83, 3) := by decide +kernel
theorem dX9_telling_7 : decode cX9_telling 7 = .ok (.bipush (-9), 2) := by decide +kernel
theorem dX9_telling_9 : decode cX9_telling 9 = .ok (.if_icmp .eq 6, 3) := by decide +kernel
theorem dX9_telling_12 : decode cX9_telling 12 = .ok (.bipush (-3), 2) := by decide +kernel
theorem dX9_telling_14 : decode cX9_telling 14 = .ok (.ireturn, 1) := by decide +kernel
theorem dX9_telling_15 : decode cX9_telling 15 = .ok (.aload_n 0, 1) := by decide +kernel
theorem dX9_telling_16 : decode cX9_telling 16 = .ok (.getfield 43, 3) := by decide +kernel
theorem dX9_telling_19 : decode cX9_telling 19 = .ok (.aload_n 0, 1) := by decide +kernel
theorem dX9_telling_20 : decode cX9_telling 20 = .ok (.getfield 10, 3) := by decide +kernel
theorem dX9_telling_23 : decode cX9_telling 23 = .ok (.invokevirtual 86, 3) := by decide +kernel
theorem dX9_telling_26 : decode cX9_telling 26 = .ok (.aload_n 0, 1) := by decide +kernel
theorem dX9_telling_27 : decode cX9_telling 27 = .ok (.getfield 50, 3) := by decide +kernel
theorem dX9_telling_30 : decode cX9_telling 30 = .ok (.invokevirtual 90, 3) := by decide +kernel
theorem dX9_telling_33 : decode cX9_telling 33 = .ok (.aload_n 0, 1) := by decide +kernel
theorem dX9_telling_34 : decode cX9_telling 34 = .ok (.getfield 57, 3) := by decide +kernel
theorem dX9_telling_37 : decode cX9_telling 37 = .ok (.invokevirtual 93, 3) := by decide +kernel
theorem dX9_telling_40 : decode cX9_telling 40 = .ok (.aload_n 0, 1) := by decide +kernel
theorem dX9_telling_41 : decode cX9_telling 41 = .ok (.getfield 22, 3) := by decide +kernel
theorem dX9_telling_44 : decode cX9_telling 44 = .ok (.aload_n 0, 1) := by decide +kernel
theorem dX9_telling_45 : decode cX9_telling 45 = .ok (.getfield 10, 3) := by decide +kernel
theorem dX9_telling_48 : decode cX9_telling 48 = .ok (.invokevirtual 94, 3) := by decide +kernel
theorem dX9_telling_51 : decode cX9_telling 51 = .ok (.ireturn, 1) := by decide +kernel
theorem dX9_about_0 : decode cX9_about 0 = .ok (.iload_n 1, 1) := by decide +kernel
theorem dX9_about_1 : decode cX9_about 1 = .ok (.tableswitch 153 0 8 #[51, 59, 67, 79, 84, 113, 129, 137, 145], 51) := by decide +kernel
theorem dX9_about_52 : decode cX9_about 52 = .ok (.aload_n 0, 1) := by decide +kernel
theorem dX9_about_53 : decode cX9_about 53 = .ok (.getfield 10, 3) := by decide +kernel
theorem dX9_about_56 : decode cX9_about 56 = .ok (.invokevirtual 98, 3) := by decide +kernel
theorem dX9_about_59 : decode cX9_about 59 = .ok (.ireturn, 1) := by decide +kernel
theorem dX9_about_60 : decode cX9_about 60 = .ok (.aload_n 0, 1) := by decide +kernel
theorem dX9_about_61 : decode cX9_about 61 = .ok (.getfield 10, 3) := by decide +kernel
theorem dX9_about_64 : decode cX9_about 64 = .ok (.invokevirtual 101, 3) := by decide +kernel
theorem dX9_about_67 : decode cX9_about 67 = .ok (.ireturn, 1) := by decide +kernel
theorem dX9_about_68 : decode cX9_about 68 = .ok (.aload_n 0, 1) := by decide +kernel
theorem dX9_about_69 : decode cX9_about 69 = .ok (.getfield 22, 3) := by decide +kernel
theorem dX9_about_72 : decode cX9_about 72 = .ok (.aload_n 0, 1) := by decide +kernel
theorem dX9_about_73 : decode cX9_about 73 = .ok (.getfield 10, 3) := by decide +kernel
theorem dX9_about_76 : decode cX9_about 76 = .ok (.invokevirtual 94, 3) := by decide +kernel
theorem dX9_about_79 : decode cX9_about 79 = .ok (.ireturn, 1) := by decide +kernel
theorem dX9_about_80 : decode cX9_about 80 = .ok (.aload_n 0, 1) := by decide +kernel
theorem dX9_about_81 : decode cX9_about 81 = .ok (.invokevirtual 104, 3) := by decide +kernel
theorem dX9_about_84 : decode cX9_about 84 = .ok (.ireturn, 1) := by decide +kernel
theorem dX9_about_85 : decode cX9_about 85 = .ok (.aload_n 0, 1) := by decide +kernel
theorem dX9_about_86 : decode cX9_about 86 = .ok (.getfield 10, 3) := by decide +kernel
theorem dX9_about_89 : decode cX9_about 89 = .ok (.invokevirtual 98, 3) := by decide +kernel
theorem dX9_about_92 : decode cX9_about 92 = .ok (.bipush 6, 2) := by decide +kernel
theorem dX9_about_94 : decode cX9_about 94 = .ok (.if_icmp .le 8, 3) := by decide +kernel
theorem dX9_about_97 : decode cX9_about 97 = .ok (.bipush (-3), 2) := by decide +kernel
theorem dX9_about_99 : decode cX9_about 99 = .ok (.goto 14, 3) := by decide +kernel
theorem dX9_about_102 : decode cX9_about 102 = .ok (.aload_n 0, 1) := by decide +kernel
theorem dX9_about_103 : decode cX9_about 103 = .ok (.getfield 29, 3) := by decide +kernel
theorem dX9_about_106 : decode cX9_about 106 = .ok (.aload_n 0, 1) := by decide +kernel
theorem dX9_about_107 : decode cX9_about 107 = .ok (.getfield 10, 3) := by decide +kernel
theorem dX9_about_110 : decode cX9_about 110 = .ok (.invokevirtual 107, 3) := by decide +kernel
theorem dX9_about_113 : decode cX9_about 113 = .ok (.ireturn, 1) := by decide +kernel
theorem dX9_about_114 : decode cX9_about 114 = .ok (.aload_n 0, 1) := by decide +kernel
theorem dX9_about_115 : decode cX9_about 115 = .ok (.getfield 10, 3) := by decide +kernel
theorem dX9_about_118 : decode cX9_about 118 = .ok (.invokevirtual 101, 3) := by decide +kernel
theorem dX9_about_121 : decode cX9_about 121 = .ok (.aload_n 0, 1) := by decide +kernel
theorem dX9_about_122 : decode cX9_about 122 = .ok (.getfield 10, 3) := by decide +kernel
theorem dX9_about_125 : decode cX9_about 125 = .ok (.invokevirtual 110, 3) := by decide +kernel
theorem dX9_about_128 : decode cX9_about 128 = .ok (.imul, 1) := by decide +kernel
theorem dX9_about_129 : decode cX9_about 129 = .ok (.ireturn, 1) := by decide +kernel
theorem dX9_about_130 : decode cX9_about 130 = .ok (.aload_n 0, 1) := by decide +kernel
theorem dX9_about_131 : decode cX9_about 131 = .ok (.getfield 50, 3) := by decide +kernel
theorem dX9_about_134 : decode cX9_about 134 = .ok (.invokevirtual 113, 3) := by decide +kernel
theorem dX9_about_137 : decode cX9_about 137 = .ok (.ireturn, 1) := by decide +kernel
theorem dX9_about_138 : decode cX9_about 138 = .ok (.aload_n 0, 1) := by decide +kernel
theorem dX9_about_139 : decode cX9_about 139 = .ok (.getfield 64, 3) := by decide +kernel
theorem dX9_about_142 : decode cX9_about 142 = .ok (.invokevirtual 116, 3) := by decide +kernel
theorem dX9_about_145 : decode cX9_about 145 = .ok (.ireturn, 1) := by decide +kernel
theorem dX9_about_146 : decode cX9_about 146 = .ok (.aload_n 0, 1) := by decide +kernel
theorem dX9_about_147 : decode cX9_about 147 = .ok (.getfield 43, 3) := by decide +kernel
theorem dX9_about_150 : decode cX9_about 150 = .ok (.invokevirtual 76, 3) := by decide +kernel
theorem dX9_about_153 : decode cX9_about 153 = .ok (.ireturn, 1) := by decide +kernel
theorem dX9_about_154 : decode cX9_about 154 = .ok (.bipush (-2), 2) := by decide +kernel
theorem dX9_about_156 : decode cX9_about 156 = .ok (.ireturn, 1) := by decide +kernel
theorem dX9_person_0 : decode cX9_person 0 = .ok (.aload_n 0, 1) := by decide +kernel
theorem dX9_person_1 : decode cX9_person 1 = .ok (.getfield 10, 3) := by decide +kernel
theorem dX9_person_4 : decode cX9_person 4 = .ok (.iload_n 1, 1) := by decide +kernel
theorem dX9_person_5 : decode cX9_person 5 = .ok (.invokevirtual 117, 3) := by decide +kernel
theorem dX9_person_8 : decode cX9_person 8 = .ok (.ifCond .ne 5, 3) := by decide +kernel
theorem dX9_person_11 : decode cX9_person 11 = .ok (.iconst (-1), 1) := by decide +kernel
theorem dX9_person_12 : decode cX9_person 12 = .ok (.ireturn, 1) := by decide +kernel
theorem dX9_person_13 : decode cX9_person 13 = .ok (.iload_n 2, 1) := by decide +kernel
theorem dX9_person_14 : decode cX9_person 14 = .ok (.tableswitch 99 0 6 #[42, 51, 60, 69, 78, 87, 93], 42) := by decide +kernel
theorem dX9_person_56 : decode cX9_person 56 = .ok (.aload_n 0, 1) := by decide +kernel
theorem dX9_person_57 : decode cX9_person 57 = .ok (.getfield 10, 3) := by decide +kernel
theorem dX9_person_60 : decode cX9_person 60 = .ok (.iload_n 1, 1) := by decide +kernel
theorem dX9_person_61 : decode cX9_person 61 = .ok (.invokevirtual 120, 3) := by decide +kernel
theorem dX9_person_64 : decode cX9_person 64 = .ok (.ireturn, 1) := by decide +kernel
theorem dX9_person_65 : decode cX9_person 65 = .ok (.aload_n 0, 1) := by decide +kernel
theorem dX9_person_66 : decode cX9_person 66 = .ok (.getfield 10, 3) := by decide +kernel
theorem dX9_person_69 : decode cX9_person 69 = .ok (.iload_n 1, 1) := by decide +kernel
theorem dX9_person_70 : decode cX9_person 70 = .ok (.invokevirtual 124, 3) := by decide +kernel
theorem dX9_person_73 : decode cX9_person 73 = .ok (.ireturn, 1) := by decide +kernel
theorem dX9_person_74 : decode cX9_person 74 = .ok (.aload_n 0, 1) := by decide +kernel
theorem dX9_person_75 : decode cX9_person 75 = .ok (.getfield 10, 3) := by decide +kernel
theorem dX9_person_78 : decode cX9_person 78 = .ok (.iload_n 1, 1) := by decide +kernel
theorem dX9_person_79 : decode cX9_person 79 = .ok (.invokevirtual 127, 3) := by decide +kernel
theorem dX9_person_82 : decode cX9_person 82 = .ok (.ireturn, 1) := by decide +kernel
theorem dX9_person_83 : decode cX9_person 83 = .ok (.aload_n 0, 1) := by decide +kernel
theorem dX9_person_84 : decode cX9_person 84 = .ok (.getfield 10, 3) := by decide +kernel
theorem dX9_person_87 : decode cX9_person 87 = .ok (.iload_n 1, 1) := by decide +kernel
theorem dX9_person_88 : decode cX9_person 88 = .ok (.invokevirtual 130, 3) := by decide +kernel
theorem dX9_person_91 : decode cX9_person 91 = .ok (.ireturn, 1) := by decide +kernel
theorem dX9_person_92 : decode cX9_person 92 = .ok (.aload_n 0, 1) := by decide +kernel
theorem dX9_person_93 : decode cX9_person 93 = .ok (.getfield 10, 3) := by decide +kernel
theorem dX9_person_96 : decode cX9_person 96 = .ok (.iload_n 1, 1) := by decide +kernel
theorem dX9_person_97 : decode cX9_person 97 = .ok (.invokevirtual 133, 3) := by decide +kernel
theorem dX9_person_100 : decode cX9_person 100 = .ok (.ireturn, 1) := by decide +kernel
theorem dX9_person_101 : decode cX9_person 101 = .ok (.aload_n 0, 1) := by decide +kernel
theorem dX9_person_102 : decode cX9_person 102 = .ok (.iload_n 1, 1) := by decide +kernel
theorem dX9_person_103 : decode cX9_person 103 = .ok (.invokevirtual 136, 3) := by decide +kernel
theorem dX9_person_106 : decode cX9_person 106 = .ok (.ireturn, 1) := by decide +kernel
theorem dX9_person_107 : decode cX9_person 107 = .ok (.aload_n 0, 1) := by decide +kernel
theorem dX9_person_108 : decode cX9_person 108 = .ok (.iload_n 1, 1) := by decide +kernel
theorem dX9_person_109 : decode cX9_person 109 = .ok (.invokevirtual 139, 3) := by decide +kernel
theorem dX9_person_112 : decode cX9_person 112 = .ok (.ireturn, 1) := by decide +kernel
theorem dX9_person_113 : decode cX9_person 113 = .ok (.bipush (-2), 2) := by decide +kernel
theorem dX9_person_115 : decode cX9_person 115 = .ok (.ireturn, 1) := by decide +kernel
theorem dX9_plan_0 : decode cX9_plan 0 = .ok (.aload_n 0, 1) := by decide +kernel
theorem dX9_plan_1 : decode cX9_plan 1 = .ok (.getfield 10, 3) := by decide +kernel
theorem dX9_plan_4 : decode cX9_plan 4 = .ok (.iload_n 1, 1) := by decide +kernel
theorem dX9_plan_5 : decode cX9_plan 5 = .ok (.invokevirtual 142, 3) := by decide +kernel
theorem dX9_plan_8 : decode cX9_plan 8 = .ok (.ifCond .eq 14, 3) := by decide +kernel
theorem dX9_plan_11 : decode cX9_plan 11 = .ok (.aload_n 0, 1) := by decide +kernel
theorem dX9_plan_12 : decode cX9_plan 12 = .ok (.getfield 10, 3) := by decide +kernel
theorem dX9_plan_15 : decode cX9_plan 15 = .ok (.iload_n 1, 1) := by decide +kernel
theorem dX9_plan_16 : decode cX9_plan 16 = .ok (.invokevirtual 145, 3) := by decide +kernel
theorem dX9_plan_19 : decode cX9_plan 19 = .ok (.goto 4, 3) := by decide +kernel
theorem dX9_plan_22 : decode cX9_plan 22 = .ok (.iconst (-1), 1) := by decide +kernel
theorem dX9_plan_23 : decode cX9_plan 23 = .ok (.ireturn, 1) := by decide +kernel
theorem dX9_knows_0 : decode cX9_knows 0 = .ok (.aload_n 0, 1) := by decide +kernel
theorem dX9_knows_1 : decode cX9_knows 1 = .ok (.getfield 10, 3) := by decide +kernel
theorem dX9_knows_4 : decode cX9_knows 4 = .ok (.iload_n 1, 1) := by decide +kernel
theorem dX9_knows_5 : decode cX9_knows 5 = .ok (.invokevirtual 117, 3) := by decide +kernel
theorem dX9_knows_8 : decode cX9_knows 8 = .ok (.ifCond .eq 14, 3) := by decide +kernel
theorem dX9_knows_11 : decode cX9_knows 11 = .ok (.aload_n 0, 1) := by decide +kernel
theorem dX9_knows_12 : decode cX9_knows 12 = .ok (.getfield 10, 3) := by decide +kernel
theorem dX9_knows_15 : decode cX9_knows 15 = .ok (.iload_n 2, 1) := by decide +kernel
theorem dX9_knows_16 : decode cX9_knows 16 = .ok (.invokevirtual 148, 3) := by decide +kernel
theorem dX9_knows_19 : decode cX9_knows 19 = .ok (.ifCond .ne 5, 3) := by decide +kernel
theorem dX9_knows_22 : decode cX9_knows 22 = .ok (.iconst (-1), 1) := by decide +kernel
theorem dX9_knows_23 : decode cX9_knows 23 = .ok (.ireturn, 1) := by decide +kernel
theorem dX9_knows_24 : decode cX9_knows 24 = .ok (.aload_n 0, 1) := by decide +kernel
theorem dX9_knows_25 : decode cX9_knows 25 = .ok (.getfield 22, 3) := by decide +kernel
theorem dX9_knows_28 : decode cX9_knows 28 = .ok (.aload_n 0, 1) := by decide +kernel
theorem dX9_knows_29 : decode cX9_knows 29 = .ok (.getfield 10, 3) := by decide +kernel
theorem dX9_knows_32 : decode cX9_knows 32 = .ok (.invokevirtual 94, 3) := by decide +kernel
theorem dX9_knows_35 : decode cX9_knows 35 = .ok (.pop, 1) := by decide +kernel
theorem dX9_knows_36 : decode cX9_knows 36 = .ok (.aload_n 0, 1) := by decide +kernel
theorem dX9_knows_37 : decode cX9_knows 37 = .ok (.getfield 22, 3) := by decide +kernel
theorem dX9_knows_40 : decode cX9_knows 40 = .ok (.iload_n 1, 1) := by decide +kernel
theorem dX9_knows_41 : decode cX9_knows 41 = .ok (.iload_n 2, 1) := by decide +kernel
theorem dX9_knows_42 : decode cX9_knows 42 = .ok (.invokevirtual 151, 3) := by decide +kernel
theorem dX9_knows_45 : decode cX9_knows 45 = .ok (.ireturn, 1) := by decide +kernel
theorem dX9_last_0 : decode cX9_last 0 = .ok (.aload_n 0, 1) := by decide +kernel
theorem dX9_last_1 : decode cX9_last 1 = .ok (.getfield 10, 3) := by decide +kernel
theorem dX9_last_4 : decode cX9_last 4 = .ok (.iload_n 1, 1) := by decide +kernel
theorem dX9_last_5 : decode cX9_last 5 = .ok (.invokevirtual 148, 3) := by decide +kernel
theorem dX9_last_8 : decode cX9_last 8 = .ok (.ifCond .ne 5, 3) := by decide +kernel
theorem dX9_last_11 : decode cX9_last 11 = .ok (.iconst (-1), 1) := by decide +kernel
theorem dX9_last_12 : decode cX9_last 12 = .ok (.ireturn, 1) := by decide +kernel
theorem dX9_last_13 : decode cX9_last 13 = .ok (.aload_n 0, 1) := by decide +kernel
theorem dX9_last_14 : decode cX9_last 14 = .ok (.getfield 22, 3) := by decide +kernel
theorem dX9_last_17 : decode cX9_last 17 = .ok (.aload_n 0, 1) := by decide +kernel
theorem dX9_last_18 : decode cX9_last 18 = .ok (.getfield 10, 3) := by decide +kernel
theorem dX9_last_21 : decode cX9_last 21 = .ok (.invokevirtual 94, 3) := by decide +kernel
theorem dX9_last_24 : decode cX9_last 24 = .ok (.pop, 1) := by decide +kernel
theorem dX9_last_25 : decode cX9_last 25 = .ok (.iconst 0, 1) := by decide +kernel
theorem dX9_last_26 : decode cX9_last 26 = .ok (.istore_n 2, 1) := by decide +kernel
theorem dX9_last_27 : decode cX9_last 27 = .ok (.iconst 0, 1) := by decide +kernel
theorem dX9_last_28 : decode cX9_last 28 = .ok (.istore_n 3, 1) := by decide +kernel
theorem dX9_last_29 : decode cX9_last 29 = .ok (.iload_n 3, 1) := by decide +kernel
theorem dX9_last_30 : decode cX9_last 30 = .ok (.aload_n 0, 1) := by decide +kernel
theorem dX9_last_31 : decode cX9_last 31 = .ok (.getfield 10, 3) := by decide +kernel
theorem dX9_last_34 : decode cX9_last 34 = .ok (.invokevirtual 98, 3) := by decide +kernel
theorem dX9_last_37 : decode cX9_last 37 = .ok (.if_icmp .ge 23, 3) := by decide +kernel
theorem dX9_last_40 : decode cX9_last 40 = .ok (.iload_n 2, 1) := by decide +kernel
theorem dX9_last_41 : decode cX9_last 41 = .ok (.aload_n 0, 1) := by decide +kernel
theorem dX9_last_42 : decode cX9_last 42 = .ok (.getfield 22, 3) := by decide +kernel
theorem dX9_last_45 : decode cX9_last 45 = .ok (.iload_n 3, 1) := by decide +kernel
theorem dX9_last_46 : decode cX9_last 46 = .ok (.iload_n 1, 1) := by decide +kernel
theorem dX9_last_47 : decode cX9_last 47 = .ok (.invokevirtual 151, 3) := by decide +kernel
theorem dX9_last_50 : decode cX9_last 50 = .ok (.invokestatic 155, 3) := by decide +kernel
theorem dX9_last_53 : decode cX9_last 53 = .ok (.istore_n 2, 1) := by decide +kernel
theorem dX9_last_54 : decode cX9_last 54 = .ok (.iinc 3 1, 3) := by decide +kernel
theorem dX9_last_57 : decode cX9_last 57 = .ok (.goto (-28), 3) := by decide +kernel
theorem dX9_last_60 : decode cX9_last 60 = .ok (.iload_n 2, 1) := by decide +kernel
theorem dX9_last_61 : decode cX9_last 61 = .ok (.ireturn, 1) := by decide +kernel
theorem dX9_move_0 : decode cX9_move 0 = .ok (.aload_n 0, 1) := by decide +kernel
theorem dX9_move_1 : decode cX9_move 1 = .ok (.getfield 10, 3) := by decide +kernel
theorem dX9_move_4 : decode cX9_move 4 = .ok (.iload_n 1, 1) := by decide +kernel
theorem dX9_move_5 : decode cX9_move 5 = .ok (.iload_n 2, 1) := by decide +kernel
theorem dX9_move_6 : decode cX9_move 6 = .ok (.invokestatic 160, 3) := by decide +kernel
theorem dX9_move_9 : decode cX9_move 9 = .ok (.istore_n 3, 1) := by decide +kernel
theorem dX9_move_10 : decode cX9_move 10 = .ok (.iload_n 3, 1) := by decide +kernel
theorem dX9_move_11 : decode cX9_move 11 = .ok (.ifCond .eq 5, 3) := by decide +kernel
theorem dX9_move_14 : decode cX9_move 14 = .ok (.iload_n 3, 1) := by decide +kernel
theorem dX9_move_15 : decode cX9_move 15 = .ok (.ireturn, 1) := by decide +kernel
theorem dX9_move_16 : decode cX9_move 16 = .ok (.aload_n 0, 1) := by decide +kernel
theorem dX9_move_17 : decode cX9_move 17 = .ok (.getfield 50, 3) := by decide +kernel
theorem dX9_move_20 : decode cX9_move 20 = .ok (.aload_n 0, 1) := by decide +kernel
theorem dX9_move_21 : decode cX9_move 21 = .ok (.getfield 10, 3) := by decide +kernel
theorem dX9_move_24 : decode cX9_move 24 = .ok (.invokevirtual 164, 3) := by decide +kernel
theorem dX9_move_27 : decode cX9_move 27 = .ok (.aload_n 0, 1) := by decide +kernel
theorem dX9_move_28 : decode cX9_move 28 = .ok (.getfield 10, 3) := by decide +kernel
theorem dX9_move_31 : decode cX9_move 31 = .ok (.iload_n 1, 1) := by decide +kernel
theorem dX9_move_32 : decode cX9_move 32 = .ok (.iload_n 2, 1) := by decide +kernel
theorem dX9_move_33 : decode cX9_move 33 = .ok (.invokevirtual 167, 3) := by decide +kernel
theorem dX9_move_36 : decode cX9_move 36 = .ok (.aload_n 0, 1) := by decide +kernel
theorem dX9_move_37 : decode cX9_move 37 = .ok (.getfield 22, 3) := by decide +kernel
theorem dX9_move_40 : decode cX9_move 40 = .ok (.aload_n 0, 1) := by decide +kernel
theorem dX9_move_41 : decode cX9_move 41 = .ok (.getfield 10, 3) := by decide +kernel
theorem dX9_move_44 : decode cX9_move 44 = .ok (.invokevirtual 94, 3) := by decide +kernel
theorem dX9_move_47 : decode cX9_move 47 = .ok (.ireturn, 1) := by decide +kernel
theorem dX9_change_0 : decode cX9_change 0 = .ok (.aload_n 0, 1) := by decide +kernel
theorem dX9_change_1 : decode cX9_change 1 = .ok (.getfield 10, 3) := by decide +kernel
theorem dX9_change_4 : decode cX9_change 4 = .ok (.iload_n 1, 1) := by decide +kernel
theorem dX9_change_5 : decode cX9_change 5 = .ok (.invokestatic 171, 3) := by decide +kernel
theorem dX9_change_8 : decode cX9_change 8 = .ok (.istore_n 2, 1) := by decide +kernel
theorem dX9_change_9 : decode cX9_change 9 = .ok (.iload_n 2, 1) := by decide +kernel
theorem dX9_change_10 : decode cX9_change 10 = .ok (.ifCond .eq 5, 3) := by decide +kernel
theorem dX9_change_13 : decode cX9_change 13 = .ok (.iload_n 2, 1) := by decide +kernel
theorem dX9_change_14 : decode cX9_change 14 = .ok (.ireturn, 1) := by decide +kernel
theorem dX9_change_15 : decode cX9_change 15 = .ok (.aload_n 0, 1) := by decide +kernel
theorem dX9_change_16 : decode cX9_change 16 = .ok (.getfield 50, 3) := by decide +kernel
theorem dX9_change_19 : decode cX9_change 19 = .ok (.aload_n 0, 1) := by decide +kernel
theorem dX9_change_20 : decode cX9_change 20 = .ok (.getfield 10, 3) := by decide +kernel
theorem dX9_change_23 : decode cX9_change 23 = .ok (.invokevirtual 164, 3) := by decide +kernel
theorem dX9_change_26 : decode cX9_change 26 = .ok (.aload_n 0, 1) := by decide +kernel
theorem dX9_change_27 : decode cX9_change 27 = .ok (.getfield 10, 3) := by decide +kernel
theorem dX9_change_30 : decode cX9_change 30 = .ok (.iload_n 1, 1) := by decide +kernel
theorem dX9_change_31 : decode cX9_change 31 = .ok (.invokevirtual 175, 3) := by decide +kernel
theorem dX9_change_34 : decode cX9_change 34 = .ok (.aload_n 0, 1) := by decide +kernel
theorem dX9_change_35 : decode cX9_change 35 = .ok (.getfield 22, 3) := by decide +kernel
theorem dX9_change_38 : decode cX9_change 38 = .ok (.aload_n 0, 1) := by decide +kernel
theorem dX9_change_39 : decode cX9_change 39 = .ok (.getfield 10, 3) := by decide +kernel
theorem dX9_change_42 : decode cX9_change 42 = .ok (.invokevirtual 94, 3) := by decide +kernel
theorem dX9_change_45 : decode cX9_change 45 = .ok (.ireturn, 1) := by decide +kernel
theorem dX9_quicken_0 : decode cX9_quicken 0 = .ok (.aload_n 0, 1) := by decide +kernel
theorem dX9_quicken_1 : decode cX9_quicken 1 = .ok (.getfield 50, 3) := by decide +kernel
theorem dX9_quicken_4 : decode cX9_quicken 4 = .ok (.aload_n 0, 1) := by decide +kernel
theorem dX9_quicken_5 : decode cX9_quicken 5 = .ok (.getfield 10, 3) := by decide +kernel
theorem dX9_quicken_8 : decode cX9_quicken 8 = .ok (.invokevirtual 164, 3) := by decide +kernel
theorem dX9_quicken_11 : decode cX9_quicken 11 = .ok (.aload_n 0, 1) := by decide +kernel
theorem dX9_quicken_12 : decode cX9_quicken 12 = .ok (.getfield 29, 3) := by decide +kernel
theorem dX9_quicken_15 : decode cX9_quicken 15 = .ok (.aload_n 0, 1) := by decide +kernel
theorem dX9_quicken_16 : decode cX9_quicken 16 = .ok (.getfield 10, 3) := by decide +kernel
theorem dX9_quicken_19 : decode cX9_quicken 19 = .ok (.invokevirtual 179, 3) := by decide +kernel
theorem dX9_quicken_22 : decode cX9_quicken 22 = .ok (.aload_n 0, 1) := by decide +kernel
theorem dX9_quicken_23 : decode cX9_quicken 23 = .ok (.getfield 22, 3) := by decide +kernel
theorem dX9_quicken_26 : decode cX9_quicken 26 = .ok (.aload_n 0, 1) := by decide +kernel
theorem dX9_quicken_27 : decode cX9_quicken 27 = .ok (.getfield 10, 3) := by decide +kernel
theorem dX9_quicken_30 : decode cX9_quicken 30 = .ok (.invokevirtual 94, 3) := by decide +kernel
theorem dX9_quicken_33 : decode cX9_quicken 33 = .ok (.ireturn, 1) := by decide +kernel
theorem dX9_set_0 : decode cX9_set 0 = .ok (.aload_n 0, 1) := by decide +kernel
theorem dX9_set_1 : decode cX9_set 1 = .ok (.getfield 10, 3) := by decide +kernel
theorem dX9_set_4 : decode cX9_set 4 = .ok (.iload_n 1, 1) := by decide +kernel
theorem dX9_set_5 : decode cX9_set 5 = .ok (.iload_n 2, 1) := by decide +kernel
theorem dX9_set_6 : decode cX9_set 6 = .ok (.iload_n 3, 1) := by decide +kernel
theorem dX9_set_7 : decode cX9_set 7 = .ok (.invokestatic 182, 3) := by decide +kernel
theorem dX9_set_10 : decode cX9_set 10 = .ok (.istore 4, 2) := by decide +kernel
theorem dX9_set_12 : decode cX9_set 12 = .ok (.iload 4, 2) := by decide +kernel
theorem dX9_set_14 : decode cX9_set 14 = .ok (.ifCond .eq 6, 3) := by decide +kernel
theorem dX9_set_17 : decode cX9_set 17 = .ok (.iload 4, 2) := by decide +kernel
theorem dX9_set_19 : decode cX9_set 19 = .ok (.ireturn, 1) := by decide +kernel
theorem dX9_set_20 : decode cX9_set 20 = .ok (.aload_n 0, 1) := by decide +kernel
theorem dX9_set_21 : decode cX9_set 21 = .ok (.getfield 50, 3) := by decide +kernel
theorem dX9_set_24 : decode cX9_set 24 = .ok (.aload_n 0, 1) := by decide +kernel
theorem dX9_set_25 : decode cX9_set 25 = .ok (.getfield 10, 3) := by decide +kernel
theorem dX9_set_28 : decode cX9_set 28 = .ok (.invokevirtual 164, 3) := by decide +kernel
theorem dX9_set_31 : decode cX9_set 31 = .ok (.aload_n 0, 1) := by decide +kernel
theorem dX9_set_32 : decode cX9_set 32 = .ok (.getfield 10, 3) := by decide +kernel
theorem dX9_set_35 : decode cX9_set 35 = .ok (.iload_n 1, 1) := by decide +kernel
theorem dX9_set_36 : decode cX9_set 36 = .ok (.iload_n 2, 1) := by decide +kernel
theorem dX9_set_37 : decode cX9_set 37 = .ok (.iload_n 3, 1) := by decide +kernel
theorem dX9_set_38 : decode cX9_set 38 = .ok (.invokevirtual 186, 3) := by decide +kernel
theorem dX9_set_41 : decode cX9_set 41 = .ok (.ireturn, 1) := by decide +kernel
theorem dX9_undo_0 : decode cX9_undo 0 = .ok (.aload_n 0, 1) := by decide +kernel
theorem dX9_undo_1 : decode cX9_undo 1 = .ok (.getfield 50, 3) := by decide +kernel
theorem dX9_undo_4 : decode cX9_undo 4 = .ok (.aload_n 0, 1) := by decide +kernel
theorem dX9_undo_5 : decode cX9_undo 5 = .ok (.getfield 10, 3) := by decide +kernel
theorem dX9_undo_8 : decode cX9_undo 8 = .ok (.invokevirtual 190, 3) := by decide +kernel
theorem dX9_undo_11 : decode cX9_undo 11 = .ok (.ifCond .eq 13, 3) := by decide +kernel
theorem dX9_undo_14 : decode cX9_undo 14 = .ok (.aload_n 0, 1) := by decide +kernel
theorem dX9_undo_15 : decode cX9_undo 15 = .ok (.getfield 50, 3) := by decide +kernel
theorem dX9_undo_18 : decode cX9_undo 18 = .ok (.invokevirtual 113, 3) := by decide +kernel
theorem dX9_undo_21 : decode cX9_undo 21 = .ok (.goto 5, 3) := by decide +kernel
theorem dX9_undo_24 : decode cX9_undo 24 = .ok (.bipush (-3), 2) := by decide +kernel
theorem dX9_undo_26 : decode cX9_undo 26 = .ok (.ireturn, 1) := by decide +kernel
theorem dX9_number_0 : decode cX9_number 0 = .ok (.aload_n 0, 1) := by decide +kernel
theorem dX9_number_1 : decode cX9_number 1 = .ok (.getfield 10, 3) := by decide +kernel
theorem dX9_number_4 : decode cX9_number 4 = .ok (.iload_n 1, 1) := by decide +kernel
theorem dX9_number_5 : decode cX9_number 5 = .ok (.invokevirtual 117, 3) := by decide +kernel
theorem dX9_number_8 : decode cX9_number 8 = .ok (.ifCond .ne 7, 3) := by decide +kernel
theorem dX9_number_11 : decode cX9_number 11 = .ok (.ldc2_w 194, 3) := by decide +kernel
theorem dX9_number_14 : decode cX9_number 14 = .ok (.lreturn, 1) := by decide +kernel
theorem dX9_number_15 : decode cX9_number 15 = .ok (.iload_n 2, 1) := by decide +kernel
theorem dX9_number_16 : decode cX9_number 16 = .ok (.ifCond .lt 9, 3) := by decide +kernel
theorem dX9_number_19 : decode cX9_number 19 = .ok (.iload_n 2, 1) := by decide +kernel
theorem dX9_number_20 : decode cX9_number 20 = .ok (.bipush 60, 2) := by decide +kernel
theorem dX9_number_22 : decode cX9_number 22 = .ok (.if_icmp .le 7, 3) := by decide +kernel
theorem dX9_number_25 : decode cX9_number 25 = .ok (.ldc2_w 196, 3) := by decide +kernel
theorem dX9_number_28 : decode cX9_number 28 = .ok (.lreturn, 1) := by decide +kernel
theorem dX9_number_29 : decode cX9_number 29 = .ok (.aload_n 0, 1) := by decide +kernel
theorem dX9_number_30 : decode cX9_number 30 = .ok (.getfield 36, 3) := by decide +kernel
theorem dX9_number_33 : decode cX9_number 33 = .ok (.aload_n 0, 1) := by decide +kernel
theorem dX9_number_34 : decode cX9_number 34 = .ok (.getfield 10, 3) := by decide +kernel
theorem dX9_number_37 : decode cX9_number 37 = .ok (.iload_n 1, 1) := by decide +kernel
theorem dX9_number_38 : decode cX9_number 38 = .ok (.invokevirtual 120, 3) := by decide +kernel
theorem dX9_number_41 : decode cX9_number 41 = .ok (.aload_n 0, 1) := by decide +kernel
theorem dX9_number_42 : decode cX9_number 42 = .ok (.getfield 10, 3) := by decide +kernel
theorem dX9_number_45 : decode cX9_number 45 = .ok (.iload_n 1, 1) := by decide +kernel
theorem dX9_number_46 : decode cX9_number 46 = .ok (.invokevirtual 124, 3) := by decide +kernel
theorem dX9_number_49 : decode cX9_number 49 = .ok (.invokevirtual 198, 3) := by decide +kernel
theorem dX9_number_52 : decode cX9_number 52 = .ok (.aload_n 0, 1) := by decide +kernel
theorem dX9_number_53 : decode cX9_number 53 = .ok (.getfield 36, 3) := by decide +kernel
theorem dX9_number_56 : decode cX9_number 56 = .ok (.iload_n 2, 1) := by decide +kernel
theorem dX9_number_57 : decode cX9_number 57 = .ok (.invokevirtual 200, 3) := by decide +kernel
theorem dX9_number_60 : decode cX9_number 60 = .ok (.lreturn, 1) := by decide +kernel
theorem dX9_soon_0 : decode cX9_soon 0 = .ok (.aload_n 0, 1) := by decide +kernel
theorem dX9_soon_1 : decode cX9_soon 1 = .ok (.getfield 10, 3) := by decide +kernel
theorem dX9_soon_4 : decode cX9_soon 4 = .ok (.iload_n 1, 1) := by decide +kernel
theorem dX9_soon_5 : decode cX9_soon 5 = .ok (.invokevirtual 117, 3) := by decide +kernel
theorem dX9_soon_8 : decode cX9_soon 8 = .ok (.ifCond .ne 5, 3) := by decide +kernel
theorem dX9_soon_11 : decode cX9_soon 11 = .ok (.iconst (-1), 1) := by decide +kernel
theorem dX9_soon_12 : decode cX9_soon 12 = .ok (.ireturn, 1) := by decide +kernel
theorem dX9_soon_13 : decode cX9_soon 13 = .ok (.iload_n 2, 1) := by decide +kernel
theorem dX9_soon_14 : decode cX9_soon 14 = .ok (.iconst 1, 1) := by decide +kernel
theorem dX9_soon_15 : decode cX9_soon 15 = .ok (.if_icmp .lt 9, 3) := by decide +kernel
theorem dX9_soon_18 : decode cX9_soon 18 = .ok (.iload_n 2, 1) := by decide +kernel
theorem dX9_soon_19 : decode cX9_soon 19 = .ok (.ldc 204, 2) := by decide +kernel
theorem dX9_soon_21 : decode cX9_soon 21 = .ok (.if_icmp .le 6, 3) := by decide +kernel
theorem dX9_soon_24 : decode cX9_soon 24 = .ok (.bipush (-2), 2) := by decide +kernel
theorem dX9_soon_26 : decode cX9_soon 26 = .ok (.ireturn, 1) := by decide +kernel
theorem dX9_soon_27 : decode cX9_soon 27 = .ok (.aload_n 0, 1) := by decide +kernel
theorem dX9_soon_28 : decode cX9_soon 28 = .ok (.getfield 36, 3) := by decide +kernel
theorem dX9_soon_31 : decode cX9_soon 31 = .ok (.aload_n 0, 1) := by decide +kernel
theorem dX9_soon_32 : decode cX9_soon 32 = .ok (.getfield 10, 3) := by decide +kernel
theorem dX9_soon_35 : decode cX9_soon 35 = .ok (.iload_n 1, 1) := by decide +kernel
theorem dX9_soon_36 : decode cX9_soon 36 = .ok (.invokevirtual 120, 3) := by decide +kernel
theorem dX9_soon_39 : decode cX9_soon 39 = .ok (.aload_n 0, 1) := by decide +kernel
theorem dX9_soon_40 : decode cX9_soon 40 = .ok (.getfield 10, 3) := by decide +kernel
theorem dX9_soon_43 : decode cX9_soon 43 = .ok (.iload_n 1, 1) := by decide +kernel
theorem dX9_soon_44 : decode cX9_soon 44 = .ok (.invokevirtual 124, 3) := by decide +kernel
theorem dX9_soon_47 : decode cX9_soon 47 = .ok (.invokevirtual 198, 3) := by decide +kernel
theorem dX9_soon_50 : decode cX9_soon 50 = .ok (.iconst 0, 1) := by decide +kernel
theorem dX9_soon_51 : decode cX9_soon 51 = .ok (.istore_n 3, 1) := by decide +kernel
theorem dX9_soon_52 : decode cX9_soon 52 = .ok (.iload_n 3, 1) := by decide +kernel
theorem dX9_soon_53 : decode cX9_soon 53 = .ok (.bipush 60, 2) := by decide +kernel
theorem dX9_soon_55 : decode cX9_soon 55 = .ok (.if_icmp .gt 25, 3) := by decide +kernel
theorem dX9_soon_58 : decode cX9_soon 58 = .ok (.aload_n 0, 1) := by decide +kernel
theorem dX9_soon_59 : decode cX9_soon 59 = .ok (.getfield 36, 3) := by decide +kernel
theorem dX9_soon_62 : decode cX9_soon 62 = .ok (.iload_n 3, 1) := by decide +kernel
theorem dX9_soon_63 : decode cX9_soon 63 = .ok (.invokevirtual 200, 3) := by decide +kernel
theorem dX9_soon_66 : decode cX9_soon 66 = .ok (.iload_n 2, 1) := by decide +kernel
theorem dX9_soon_67 : decode cX9_soon 67 = .ok (.i2l, 1) := by decide +kernel
theorem dX9_soon_68 : decode cX9_soon 68 = .ok (.lcmp, 1) := by decide +kernel
theorem dX9_soon_69 : decode cX9_soon 69 = .ok (.ifCond .lt 5, 3) := by decide +kernel
theorem dX9_soon_72 : decode cX9_soon 72 = .ok (.iload_n 3, 1) := by decide +kernel
theorem dX9_soon_73 : decode cX9_soon 73 = .ok (.ireturn, 1) := by decide +kernel
theorem dX9_soon_74 : decode cX9_soon 74 = .ok (.iinc 3 1, 3) := by decide +kernel
theorem dX9_soon_77 : decode cX9_soon 77 = .ok (.goto (-25), 3) := by decide +kernel
theorem dX9_soon_80 : decode cX9_soon 80 = .ok (.bipush (-9), 2) := by decide +kernel
theorem dX9_soon_82 : decode cX9_soon 82 = .ok (.ireturn, 1) := by decide +kernel
theorem dX9_knowers_0 : decode cX9_knowers 0 = .ok (.aload_n 0, 1) := by decide +kernel
theorem dX9_knowers_1 : decode cX9_knowers 1 = .ok (.getfield 10, 3) := by decide +kernel
theorem dX9_knowers_4 : decode cX9_knowers 4 = .ok (.iload_n 1, 1) := by decide +kernel
theorem dX9_knowers_5 : decode cX9_knowers 5 = .ok (.invokevirtual 148, 3) := by decide +kernel
theorem dX9_knowers_8 : decode cX9_knowers 8 = .ok (.ifCond .ne 5, 3) := by decide +kernel
theorem dX9_knowers_11 : decode cX9_knowers 11 = .ok (.iconst (-1), 1) := by decide +kernel
theorem dX9_knowers_12 : decode cX9_knowers 12 = .ok (.ireturn, 1) := by decide +kernel
theorem dX9_knowers_13 : decode cX9_knowers 13 = .ok (.iload_n 2, 1) := by decide +kernel
theorem dX9_knowers_14 : decode cX9_knowers 14 = .ok (.ifCond .lt 10, 3) := by decide +kernel
theorem dX9_knowers_17 : decode cX9_knowers 17 = .ok (.iload_n 2, 1) := by decide +kernel
theorem dX9_knowers_18 : decode cX9_knowers 18 = .ok (.sipush 999, 3) := by decide +kernel
theorem dX9_knowers_21 : decode cX9_knowers 21 = .ok (.if_icmp .le 6, 3) := by decide +kernel
theorem dX9_knowers_24 : decode cX9_knowers 24 = .ok (.bipush (-2), 2) := by decide +kernel
theorem dX9_knowers_26 : decode cX9_knowers 26 = .ok (.ireturn, 1) := by decide +kernel
theorem dX9_knowers_27 : decode cX9_knowers 27 = .ok (.aload_n 0, 1) := by decide +kernel
theorem dX9_knowers_28 : decode cX9_knowers 28 = .ok (.getfield 22, 3) := by decide +kernel
theorem dX9_knowers_31 : decode cX9_knowers 31 = .ok (.aload_n 0, 1) := by decide +kernel
theorem dX9_knowers_32 : decode cX9_knowers 32 = .ok (.getfield 10, 3) := by decide +kernel
theorem dX9_knowers_35 : decode cX9_knowers 35 = .ok (.invokevirtual 94, 3) := by decide +kernel
theorem dX9_knowers_38 : decode cX9_knowers 38 = .ok (.pop, 1) := by decide +kernel
theorem dX9_knowers_39 : decode cX9_knowers 39 = .ok (.iconst 0, 1) := by decide +kernel
theorem dX9_knowers_40 : decode cX9_knowers 40 = .ok (.istore_n 3, 1) := by decide +kernel
theorem dX9_knowers_41 : decode cX9_knowers 41 = .ok (.iconst 0, 1) := by decide +kernel
theorem dX9_knowers_42 : decode cX9_knowers 42 = .ok (.istore 4, 2) := by decide +kernel
theorem dX9_knowers_44 : decode cX9_knowers 44 = .ok (.iload 4, 2) := by decide +kernel
theorem dX9_knowers_46 : decode cX9_knowers 46 = .ok (.aload_n 0, 1) := by decide +kernel
theorem dX9_knowers_47 : decode cX9_knowers 47 = .ok (.getfield 10, 3) := by decide +kernel
theorem dX9_knowers_50 : decode cX9_knowers 50 = .ok (.invokevirtual 98, 3) := by decide +kernel
theorem dX9_knowers_53 : decode cX9_knowers 53 = .ok (.if_icmp .ge 30, 3) := by decide +kernel
theorem dX9_knowers_56 : decode cX9_knowers 56 = .ok (.aload_n 0, 1) := by decide +kernel
theorem dX9_knowers_57 : decode cX9_knowers 57 = .ok (.getfield 22, 3) := by decide +kernel
theorem dX9_knowers_60 : decode cX9_knowers 60 = .ok (.iload 4, 2) := by decide +kernel
theorem dX9_knowers_62 : decode cX9_knowers 62 = .ok (.iload_n 1, 1) := by decide +kernel
theorem dX9_knowers_63 : decode cX9_knowers 63 = .ok (.invokevirtual 151, 3) := by decide +kernel
theorem dX9_knowers_66 : decode cX9_knowers 66 = .ok (.iload_n 2, 1) := by decide +kernel
theorem dX9_knowers_67 : decode cX9_knowers 67 = .ok (.if_icmp .gt 10, 3) := by decide +kernel
theorem dX9_knowers_70 : decode cX9_knowers 70 = .ok (.iload_n 3, 1) := by decide +kernel
theorem dX9_knowers_71 : decode cX9_knowers 71 = .ok (.iconst 1, 1) := by decide +kernel
theorem dX9_knowers_72 : decode cX9_knowers 72 = .ok (.iload 4, 2) := by decide +kernel
theorem dX9_knowers_74 : decode cX9_knowers 74 = .ok (.ishl, 1) := by decide +kernel
theorem dX9_knowers_75 : decode cX9_knowers 75 = .ok (.ior, 1) := by decide +kernel
theorem dX9_knowers_76 : decode cX9_knowers 76 = .ok (.istore_n 3, 1) := by decide +kernel
theorem dX9_knowers_77 : decode cX9_knowers 77 = .ok (.iinc 4 1, 3) := by decide +kernel
theorem dX9_knowers_80 : decode cX9_knowers 80 = .ok (.goto (-36), 3) := by decide +kernel
theorem dX9_knowers_83 : decode cX9_knowers 83 = .ok (.iload_n 3, 1) := by decide +kernel
theorem dX9_knowers_84 : decode cX9_knowers 84 = .ok (.ireturn, 1) := by decide +kernel
theorem dX9_judge_0 : decode cX9_judge 0 = .ok (.iload_n 1, 1) := by decide +kernel
theorem dX9_judge_1 : decode cX9_judge 1 = .ok (.iconst 1, 1) := by decide +kernel
theorem dX9_judge_2 : decode cX9_judge 2 = .ok (.if_icmp .lt 23, 3) := by decide +kernel
theorem dX9_judge_5 : decode cX9_judge 5 = .ok (.iload_n 1, 1) := by decide +kernel
theorem dX9_judge_6 : decode cX9_judge 6 = .ok (.iconst 4, 1) := by decide +kernel
theorem dX9_judge_7 : decode cX9_judge 7 = .ok (.if_icmp .gt 18, 3) := by decide +kernel
theorem dX9_judge_10 : decode cX9_judge 10 = .ok (.lload_n 2, 1) := by decide +kernel
theorem dX9_judge_11 : decode cX9_judge 11 = .ok (.lconst 0, 1) := by decide +kernel
theorem dX9_judge_12 : decode cX9_judge 12 = .ok (.lcmp, 1) := by decide +kernel
theorem dX9_judge_13 : decode cX9_judge 13 = .ok (.ifCond .lt 12, 3) := by decide +kernel
theorem dX9_judge_16 : decode cX9_judge 16 = .ok (.aload_n 0, 1) := by decide +kernel
theorem dX9_judge_17 : decode cX9_judge 17 = .ok (.iload_n 1, 1) := by decide +kernel
theorem dX9_judge_18 : decode cX9_judge 18 = .ok (.lload_n 2, 1) := by decide +kernel
theorem dX9_judge_19 : decode cX9_judge 19 = .ok (.invokevirtual 205, 3) := by decide +kernel
theorem dX9_judge_22 : decode cX9_judge 22 = .ok (.ifCond .ne 6, 3) := by decide +kernel
theorem dX9_judge_25 : decode cX9_judge 25 = .ok (.bipush (-2), 2) := by decide +kernel
theorem dX9_judge_27 : decode cX9_judge 27 = .ok (.ireturn, 1) := by decide +kernel
theorem dX9_judge_28 : decode cX9_judge 28 = .ok (.aload_n 0, 1) := by decide +kernel
theorem dX9_judge_29 : decode cX9_judge 29 = .ok (.getfield 16, 3) := by decide +kernel
theorem dX9_judge_32 : decode cX9_judge 32 = .ok (.aload_n 0, 1) := by decide +kernel
theorem dX9_judge_33 : decode cX9_judge 33 = .ok (.getfield 10, 3) := by decide +kernel
theorem dX9_judge_36 : decode cX9_judge 36 = .ok (.invokevirtual 209, 3) := by decide +kernel
theorem dX9_judge_39 : decode cX9_judge 39 = .ok (.iconst 0, 1) := by decide +kernel
theorem dX9_judge_40 : decode cX9_judge 40 = .ok (.istore 4, 2) := by decide +kernel
theorem dX9_judge_42 : decode cX9_judge 42 = .ok (.iload 4, 2) := by decide +kernel
theorem dX9_judge_44 : decode cX9_judge 44 = .ok (.iload_n 1, 1) := by decide +kernel
theorem dX9_judge_45 : decode cX9_judge 45 = .ok (.if_icmp .ge 48, 3) := by decide +kernel
theorem dX9_judge_48 : decode cX9_judge 48 = .ok (.aload_n 0, 1) := by decide +kernel
theorem dX9_judge_49 : decode cX9_judge 49 = .ok (.getfield 68, 3) := by decide +kernel
theorem dX9_judge_52 : decode cX9_judge 52 = .ok (.iload 4, 2) := by decide +kernel
theorem dX9_judge_54 : decode cX9_judge 54 = .ok (.invokestatic 212, 3) := by decide +kernel
theorem dX9_judge_57 : decode cX9_judge 57 = .ok (.istore 5, 2) := by decide +kernel
theorem dX9_judge_59 : decode cX9_judge 59 = .ok (.aload_n 0, 1) := by decide +kernel
theorem dX9_judge_60 : decode cX9_judge 60 = .ok (.iload 5, 2) := by decide +kernel
theorem dX9_judge_62 : decode cX9_judge 62 = .ok (.bipush 100, 2) := by decide +kernel
theorem dX9_judge_64 : decode cX9_judge 64 = .ok (.idiv, 1) := by decide +kernel
theorem dX9_judge_65 : decode cX9_judge 65 = .ok (.iload 5, 2) := by decide +kernel
theorem dX9_judge_67 : decode cX9_judge 67 = .ok (.bipush 10, 2) := by decide +kernel
theorem dX9_judge_69 : decode cX9_judge 69 = .ok (.idiv, 1) := by decide +kernel
theorem dX9_judge_70 : decode cX9_judge 70 = .ok (.bipush 10, 2) := by decide +kernel
theorem dX9_judge_72 : decode cX9_judge 72 = .ok (.irem, 1) := by decide +kernel
theorem dX9_judge_73 : decode cX9_judge 73 = .ok (.iload 5, 2) := by decide +kernel
theorem dX9_judge_75 : decode cX9_judge 75 = .ok (.bipush 10, 2) := by decide +kernel
theorem dX9_judge_77 : decode cX9_judge 77 = .ok (.irem, 1) := by decide +kernel
theorem dX9_judge_78 : decode cX9_judge 78 = .ok (.invokevirtual 216, 3) := by decide +kernel
theorem dX9_judge_81 : decode cX9_judge 81 = .ok (.ifCond .ne 6, 3) := by decide +kernel
theorem dX9_judge_84 : decode cX9_judge 84 = .ok (.iload 4, 2) := by decide +kernel
theorem dX9_judge_86 : decode cX9_judge 86 = .ok (.ireturn, 1) := by decide +kernel
theorem dX9_judge_87 : decode cX9_judge 87 = .ok (.iinc 4 1, 3) := by decide +kernel
theorem dX9_judge_90 : decode cX9_judge 90 = .ok (.goto (-48), 3) := by decide +kernel
theorem dX9_judge_93 : decode cX9_judge 93 = .ok (.bipush (-9), 2) := by decide +kernel
theorem dX9_judge_95 : decode cX9_judge 95 = .ok (.ireturn, 1) := by decide +kernel
theorem dX9_see_0 : decode cX9_see 0 = .ok (.aload_n 0, 1) := by decide +kernel
theorem dX9_see_1 : decode cX9_see 1 = .ok (.getfield 10, 3) := by decide +kernel
theorem dX9_see_4 : decode cX9_see 4 = .ok (.iload_n 1, 1) := by decide +kernel
theorem dX9_see_5 : decode cX9_see 5 = .ok (.invokevirtual 117, 3) := by decide +kernel
theorem dX9_see_8 : decode cX9_see 8 = .ok (.ifCond .ne 5, 3) := by decide +kernel
theorem dX9_see_11 : decode cX9_see 11 = .ok (.iconst (-1), 1) := by decide +kernel
theorem dX9_see_12 : decode cX9_see 12 = .ok (.ireturn, 1) := by decide +kernel
theorem dX9_see_13 : decode cX9_see 13 = .ok (.iload_n 2, 1) := by decide +kernel
theorem dX9_see_14 : decode cX9_see 14 = .ok (.ifCond .lt 9, 3) := by decide +kernel
theorem dX9_see_17 : decode cX9_see 17 = .ok (.iload_n 2, 1) := by decide +kernel
theorem dX9_see_18 : decode cX9_see 18 = .ok (.bipush 99, 2) := by decide +kernel
theorem dX9_see_20 : decode cX9_see 20 = .ok (.if_icmp .le 6, 3) := by decide +kernel
theorem dX9_see_23 : decode cX9_see 23 = .ok (.bipush (-2), 2) := by decide +kernel
theorem dX9_see_25 : decode cX9_see 25 = .ok (.ireturn, 1) := by decide +kernel
theorem dX9_see_26 : decode cX9_see 26 = .ok (.aload_n 0, 1) := by decide +kernel
theorem dX9_see_27 : decode cX9_see 27 = .ok (.getfield 64, 3) := by decide +kernel
theorem dX9_see_30 : decode cX9_see 30 = .ok (.iload_n 1, 1) := by decide +kernel
theorem dX9_see_31 : decode cX9_see 31 = .ok (.iload_n 2, 1) := by decide +kernel
theorem dX9_see_32 : decode cX9_see 32 = .ok (.invokevirtual 220, 3) := by decide +kernel
theorem dX9_see_35 : decode cX9_see 35 = .ok (.ifCond .eq 13, 3) := by decide +kernel
theorem dX9_see_38 : decode cX9_see 38 = .ok (.aload_n 0, 1) := by decide +kernel
theorem dX9_see_39 : decode cX9_see 39 = .ok (.getfield 64, 3) := by decide +kernel
theorem dX9_see_42 : decode cX9_see 42 = .ok (.invokevirtual 116, 3) := by decide +kernel
theorem dX9_see_45 : decode cX9_see 45 = .ok (.goto 5, 3) := by decide +kernel
theorem dX9_see_48 : decode cX9_see 48 = .ok (.bipush (-4), 2) := by decide +kernel
theorem dX9_see_50 : decode cX9_see 50 = .ok (.ireturn, 1) := by decide +kernel
theorem dX9_unsee_0 : decode cX9_unsee 0 = .ok (.aload_n 0, 1) := by decide +kernel
theorem dX9_unsee_1 : decode cX9_unsee 1 = .ok (.getfield 64, 3) := by decide +kernel
theorem dX9_unsee_4 : decode cX9_unsee 4 = .ok (.invokevirtual 116, 3) := by decide +kernel
theorem dX9_unsee_7 : decode cX9_unsee 7 = .ok (.istore_n 1, 1) := by decide +kernel
theorem dX9_unsee_8 : decode cX9_unsee 8 = .ok (.aload_n 0, 1) := by decide +kernel
theorem dX9_unsee_9 : decode cX9_unsee 9 = .ok (.getfield 64, 3) := by decide +kernel
theorem dX9_unsee_12 : decode cX9_unsee 12 = .ok (.invokevirtual 223, 3) := by decide +kernel
theorem dX9_unsee_15 : decode cX9_unsee 15 = .ok (.iload_n 1, 1) := by decide +kernel
theorem dX9_unsee_16 : decode cX9_unsee 16 = .ok (.ireturn, 1) := by decide +kernel
theorem dX9_which_0 : decode cX9_which 0 = .ok (.aload_n 0, 1) := by decide +kernel
theorem dX9_which_1 : decode cX9_which 1 = .ok (.getfield 10, 3) := by decide +kernel
theorem dX9_which_4 : decode cX9_which 4 = .ok (.iload_n 1, 1) := by decide +kernel
theorem dX9_which_5 : decode cX9_which 5 = .ok (.invokevirtual 117, 3) := by decide +kernel
theorem dX9_which_8 : decode cX9_which 8 = .ok (.ifCond .ne 5, 3) := by decide +kernel
theorem dX9_which_11 : decode cX9_which 11 = .ok (.iconst (-1), 1) := by decide +kernel
theorem dX9_which_12 : decode cX9_which 12 = .ok (.ireturn, 1) := by decide +kernel
theorem dX9_which_13 : decode cX9_which 13 = .ok (.aload_n 0, 1) := by decide +kernel
theorem dX9_which_14 : decode cX9_which 14 = .ok (.getfield 16, 3) := by decide +kernel
theorem dX9_which_17 : decode cX9_which 17 = .ok (.aload_n 0, 1) := by decide +kernel
theorem dX9_which_18 : decode cX9_which 18 = .ok (.getfield 10, 3) := by decide +kernel
theorem dX9_which_21 : decode cX9_which 21 = .ok (.invokevirtual 209, 3) := by decide +kernel
theorem dX9_which_24 : decode cX9_which 24 = .ok (.iconst 0, 1) := by decide +kernel
theorem dX9_which_25 : decode cX9_which 25 = .ok (.istore_n 2, 1) := by decide +kernel
theorem dX9_which_26 : decode cX9_which 26 = .ok (.iconst 1, 1) := by decide +kernel
theorem dX9_which_27 : decode cX9_which 27 = .ok (.istore_n 3, 1) := by decide +kernel
theorem dX9_which_28 : decode cX9_which 28 = .ok (.iload_n 3, 1) := by decide +kernel
theorem dX9_which_29 : decode cX9_which 29 = .ok (.bipush 9, 2) := by decide +kernel
theorem dX9_which_31 : decode cX9_which 31 = .ok (.if_icmp .gt 54, 3) := by decide +kernel
theorem dX9_which_34 : decode cX9_which 34 = .ok (.aload_n 0, 1) := by decide +kernel
theorem dX9_which_35 : decode cX9_which 35 = .ok (.getfield 16, 3) := by decide +kernel
theorem dX9_which_38 : decode cX9_which 38 = .ok (.iload_n 1, 1) := by decide +kernel
theorem dX9_which_39 : decode cX9_which 39 = .ok (.iload_n 3, 1) := by decide +kernel
theorem dX9_which_40 : decode cX9_which 40 = .ok (.invokevirtual 224, 3) := by decide +kernel
theorem dX9_which_43 : decode cX9_which 43 = .ok (.aload_n 0, 1) := by decide +kernel
theorem dX9_which_44 : decode cX9_which 44 = .ok (.getfield 22, 3) := by decide +kernel
theorem dX9_which_47 : decode cX9_which 47 = .ok (.aload_n 0, 1) := by decide +kernel
theorem dX9_which_48 : decode cX9_which 48 = .ok (.getfield 16, 3) := by decide +kernel
theorem dX9_which_51 : decode cX9_which 51 = .ok (.invokevirtual 94, 3) := by decide +kernel
theorem dX9_which_54 : decode cX9_which 54 = .ok (.pop, 1) := by decide +kernel
theorem dX9_which_55 : decode cX9_which 55 = .ok (.aload_n 0, 1) := by decide +kernel
theorem dX9_which_56 : decode cX9_which 56 = .ok (.getfield 64, 3) := by decide +kernel
theorem dX9_which_59 : decode cX9_which 59 = .ok (.aload_n 0, 1) := by decide +kernel
theorem dX9_which_60 : decode cX9_which 60 = .ok (.getfield 16, 3) := by decide +kernel
theorem dX9_which_63 : decode cX9_which 63 = .ok (.aload_n 0, 1) := by decide +kernel
theorem dX9_which_64 : decode cX9_which 64 = .ok (.getfield 22, 3) := by decide +kernel
theorem dX9_which_67 : decode cX9_which 67 = .ok (.invokevirtual 227, 3) := by decide +kernel
theorem dX9_which_70 : decode cX9_which 70 = .ok (.ifCond .eq 9, 3) := by decide +kernel
theorem dX9_which_73 : decode cX9_which 73 = .ok (.iload_n 2, 1) := by decide +kernel
theorem dX9_which_74 : decode cX9_which 74 = .ok (.iconst 1, 1) := by decide +kernel
theorem dX9_which_75 : decode cX9_which 75 = .ok (.iload_n 3, 1) := by decide +kernel
theorem dX9_which_76 : decode cX9_which 76 = .ok (.ishl, 1) := by decide +kernel
theorem dX9_which_77 : decode cX9_which 77 = .ok (.ior, 1) := by decide +kernel
theorem dX9_which_78 : decode cX9_which 78 = .ok (.istore_n 2, 1) := by decide +kernel
theorem dX9_which_79 : decode cX9_which 79 = .ok (.iinc 3 1, 3) := by decide +kernel
theorem dX9_which_82 : decode cX9_which 82 = .ok (.goto (-54), 3) := by decide +kernel
theorem dX9_which_85 : decode cX9_which 85 = .ok (.iload_n 2, 1) := by decide +kernel
theorem dX9_which_86 : decode cX9_which 86 = .ok (.ireturn, 1) := by decide +kernel
theorem dX9_share_0 : decode cX9_share 0 = .ok (.aload_n 0, 1) := by decide +kernel
theorem dX9_share_1 : decode cX9_share 1 = .ok (.getfield 10, 3) := by decide +kernel
theorem dX9_share_4 : decode cX9_share 4 = .ok (.iload_n 1, 1) := by decide +kernel
theorem dX9_share_5 : decode cX9_share 5 = .ok (.invokevirtual 117, 3) := by decide +kernel
theorem dX9_share_8 : decode cX9_share 8 = .ok (.ifCond .ne 5, 3) := by decide +kernel
theorem dX9_share_11 : decode cX9_share 11 = .ok (.iconst (-1), 1) := by decide +kernel
theorem dX9_share_12 : decode cX9_share 12 = .ok (.ireturn, 1) := by decide +kernel
theorem dX9_share_13 : decode cX9_share 13 = .ok (.iconst 1, 1) := by decide +kernel
theorem dX9_share_14 : decode cX9_share 14 = .ok (.iload_n 1, 1) := by decide +kernel
theorem dX9_share_15 : decode cX9_share 15 = .ok (.ishl, 1) := by decide +kernel
theorem dX9_share_16 : decode cX9_share 16 = .ok (.istore_n 3, 1) := by decide +kernel
theorem dX9_share_17 : decode cX9_share 17 = .ok (.aload_n 0, 1) := by decide +kernel
theorem dX9_share_18 : decode cX9_share 18 = .ok (.invokevirtual 231, 3) := by decide +kernel
theorem dX9_share_21 : decode cX9_share 21 = .ok (.istore 4, 2) := by decide +kernel
theorem dX9_share_23 : decode cX9_share 23 = .ok (.iload 4, 2) := by decide +kernel
theorem dX9_share_25 : decode cX9_share 25 = .ok (.iload_n 3, 1) := by decide +kernel
theorem dX9_share_26 : decode cX9_share 26 = .ok (.iand, 1) := by decide +kernel
theorem dX9_share_27 : decode cX9_share 27 = .ok (.ifCond .ne 10, 3) := by decide +kernel
theorem dX9_share_30 : decode cX9_share 30 = .ok (.lconst 0, 1) := by decide +kernel
theorem dX9_share_31 : decode cX9_share 31 = .ok (.lconst 1, 1) := by decide +kernel
theorem dX9_share_32 : decode cX9_share 32 = .ok (.iload_n 2, 1) := by decide +kernel
theorem dX9_share_33 : decode cX9_share 33 = .ok (.invokestatic 234, 3) := by decide +kernel
theorem dX9_share_36 : decode cX9_share 36 = .ok (.ireturn, 1) := by decide +kernel
theorem dX9_share_37 : decode cX9_share 37 = .ok (.aload_n 0, 1) := by decide +kernel
theorem dX9_share_38 : decode cX9_share 38 = .ok (.getfield 16, 3) := by decide +kernel
theorem dX9_share_41 : decode cX9_share 41 = .ok (.aload_n 0, 1) := by decide +kernel
theorem dX9_share_42 : decode cX9_share 42 = .ok (.getfield 10, 3) := by decide +kernel
theorem dX9_share_45 : decode cX9_share 45 = .ok (.invokevirtual 209, 3) := by decide +kernel
theorem dX9_share_48 : decode cX9_share 48 = .ok (.iload 4, 2) := by decide +kernel
theorem dX9_share_50 : decode cX9_share 50 = .ok (.iload_n 3, 1) := by decide +kernel
theorem dX9_share_51 : decode cX9_share 51 = .ok (.iconst (-1), 1) := by decide +kernel
theorem dX9_share_52 : decode cX9_share 52 = .ok (.ixor, 1) := by decide +kernel
theorem dX9_share_53 : decode cX9_share 53 = .ok (.iand, 1) := by decide +kernel
theorem dX9_share_54 : decode cX9_share 54 = .ok (.istore 5, 2) := by decide +kernel
theorem dX9_share_56 : decode cX9_share 56 = .ok (.iload 5, 2) := by decide +kernel
theorem dX9_share_58 : decode cX9_share 58 = .ok (.invokestatic 238, 3) := by decide +kernel
theorem dX9_share_61 : decode cX9_share 61 = .ok (.istore 6, 2) := by decide +kernel
theorem dX9_share_63 : decode cX9_share 63 = .ok (.lconst 0, 1) := by decide +kernel
theorem dX9_share_64 : decode cX9_share 64 = .ok (.lstore 7, 2) := by decide +kernel
theorem dX9_share_66 : decode cX9_share 66 = .ok (.iconst 0, 1) := by decide +kernel
theorem dX9_share_67 : decode cX9_share 67 = .ok (.istore 9, 2) := by decide +kernel
theorem dX9_share_69 : decode cX9_share 69 = .ok (.iload 9, 2) := by decide +kernel
theorem dX9_share_71 : decode cX9_share 71 = .ok (.iload 5, 2) := by decide +kernel
theorem dX9_share_73 : decode cX9_share 73 = .ok (.if_icmp .gt 66, 3) := by decide +kernel
theorem dX9_share_76 : decode cX9_share 76 = .ok (.iload 9, 2) := by decide +kernel
theorem dX9_share_78 : decode cX9_share 78 = .ok (.iload 5, 2) := by decide +kernel
theorem dX9_share_80 : decode cX9_share 80 = .ok (.iconst (-1), 1) := by decide +kernel
theorem dX9_share_81 : decode cX9_share 81 = .ok (.ixor, 1) := by decide +kernel
theorem dX9_share_82 : decode cX9_share 82 = .ok (.iand, 1) := by decide +kernel
theorem dX9_share_83 : decode cX9_share 83 = .ok (.ifCond .ne 50, 3) := by decide +kernel
theorem dX9_share_86 : decode cX9_share 86 = .ok (.iload 9, 2) := by decide +kernel
theorem dX9_share_88 : decode cX9_share 88 = .ok (.invokestatic 238, 3) := by decide +kernel
theorem dX9_share_91 : decode cX9_share 91 = .ok (.istore 10, 2) := by decide +kernel
theorem dX9_share_93 : decode cX9_share 93 = .ok (.iload 10, 2) := by decide +kernel
theorem dX9_share_95 : decode cX9_share 95 = .ok (.invokestatic 243, 3) := by decide +kernel
theorem dX9_share_98 : decode cX9_share 98 = .ok (.iload 6, 2) := by decide +kernel
theorem dX9_share_100 : decode cX9_share 100 = .ok (.iload 10, 2) := by decide +kernel
theorem dX9_share_102 : decode cX9_share 102 = .ok (.isub, 1) := by decide +kernel
theorem dX9_share_103 : decode cX9_share 103 = .ok (.invokestatic 243, 3) := by decide +kernel
theorem dX9_share_106 : decode cX9_share 106 = .ok (.lmul, 1) := by decide +kernel
theorem dX9_share_107 : decode cX9_share 107 = .ok (.lstore 11, 2) := by decide +kernel
theorem dX9_share_109 : decode cX9_share 109 = .ok (.lload 7, 2) := by decide +kernel
theorem dX9_share_111 : decode cX9_share 111 = .ok (.lload 11, 2) := by decide +kernel
theorem dX9_share_113 : decode cX9_share 113 = .ok (.aload_n 0, 1) := by decide +kernel
theorem dX9_share_114 : decode cX9_share 114 = .ok (.iload 9, 2) := by decide +kernel
theorem dX9_share_116 : decode cX9_share 116 = .ok (.iload_n 3, 1) := by decide +kernel
theorem dX9_share_117 : decode cX9_share 117 = .ok (.ior, 1) := by decide +kernel
theorem dX9_share_118 : decode cX9_share 118 = .ok (.invokevirtual 246, 3) := by decide +kernel
theorem dX9_share_121 : decode cX9_share 121 = .ok (.aload_n 0, 1) := by decide +kernel
theorem dX9_share_122 : decode cX9_share 122 = .ok (.iload 9, 2) := by decide +kernel
theorem dX9_share_124 : decode cX9_share 124 = .ok (.invokevirtual 246, 3) := by decide +kernel
theorem dX9_share_127 : decode cX9_share 127 = .ok (.isub, 1) := by decide +kernel
theorem dX9_share_128 : decode cX9_share 128 = .ok (.i2l, 1) := by decide +kernel
theorem dX9_share_129 : decode cX9_share 129 = .ok (.lmul, 1) := by decide +kernel
theorem dX9_share_130 : decode cX9_share 130 = .ok (.ladd, 1) := by decide +kernel
theorem dX9_share_131 : decode cX9_share 131 = .ok (.lstore 7, 2) := by decide +kernel
theorem dX9_share_133 : decode cX9_share 133 = .ok (.iinc 9 1, 3) := by decide +kernel
theorem dX9_share_136 : decode cX9_share 136 = .ok (.goto (-67), 3) := by decide +kernel
theorem dX9_share_139 : decode cX9_share 139 = .ok (.lload 7, 2) := by decide +kernel
theorem dX9_share_141 : decode cX9_share 141 = .ok (.iload 6, 2) := by decide +kernel
theorem dX9_share_143 : decode cX9_share 143 = .ok (.iconst 1, 1) := by decide +kernel
theorem dX9_share_144 : decode cX9_share 144 = .ok (.iadd, 1) := by decide +kernel
theorem dX9_share_145 : decode cX9_share 145 = .ok (.invokestatic 243, 3) := by decide +kernel
theorem dX9_share_148 : decode cX9_share 148 = .ok (.iload_n 2, 1) := by decide +kernel
theorem dX9_share_149 : decode cX9_share 149 = .ok (.invokestatic 234, 3) := by decide +kernel
theorem dX9_share_152 : decode cX9_share 152 = .ok (.ireturn, 1) := by decide +kernel
theorem dX9_chance_0 : decode cX9_chance 0 = .ok (.iload_n 1, 1) := by decide +kernel
theorem dX9_chance_1 : decode cX9_chance 1 = .ok (.ifCond .lt 19, 3) := by decide +kernel
theorem dX9_chance_4 : decode cX9_chance 4 = .ok (.iload_n 1, 1) := by decide +kernel
theorem dX9_chance_5 : decode cX9_chance 5 = .ok (.bipush 8, 2) := by decide +kernel
theorem dX9_chance_7 : decode cX9_chance 7 = .ok (.if_icmp .gt 13, 3) := by decide +kernel
theorem dX9_chance_10 : decode cX9_chance 10 = .ok (.iload_n 2, 1) := by decide +kernel
theorem dX9_chance_11 : decode cX9_chance 11 = .ok (.ifCond .lt 9, 3) := by decide +kernel
theorem dX9_chance_14 : decode cX9_chance 14 = .ok (.iload_n 2, 1) := by decide +kernel
theorem dX9_chance_15 : decode cX9_chance 15 = .ok (.bipush 10, 2) := by decide +kernel
theorem dX9_chance_17 : decode cX9_chance 17 = .ok (.if_icmp .le 6, 3) := by decide +kernel
theorem dX9_chance_20 : decode cX9_chance 20 = .ok (.bipush (-2), 2) := by decide +kernel
theorem dX9_chance_22 : decode cX9_chance 22 = .ok (.ireturn, 1) := by decide +kernel
theorem dX9_chance_23 : decode cX9_chance 23 = .ok (.lconst 1, 1) := by decide +kernel
theorem dX9_chance_24 : decode cX9_chance 24 = .ok (.lstore 4, 2) := by decide +kernel
theorem dX9_chance_26 : decode cX9_chance 26 = .ok (.iconst 0, 1) := by decide +kernel
theorem dX9_chance_27 : decode cX9_chance 27 = .ok (.istore 6, 2) := by decide +kernel
theorem dX9_chance_29 : decode cX9_chance 29 = .ok (.iload 6, 2) := by decide +kernel
theorem dX9_chance_31 : decode cX9_chance 31 = .ok (.aload_n 0, 1) := by decide +kernel
theorem dX9_chance_32 : decode cX9_chance 32 = .ok (.getfield 10, 3) := by decide +kernel
theorem dX9_chance_35 : decode cX9_chance 35 = .ok (.invokevirtual 110, 3) := by decide +kernel
theorem dX9_chance_38 : decode cX9_chance 38 = .ok (.if_icmp .ge 17, 3) := by decide +kernel
theorem dX9_chance_41 : decode cX9_chance 41 = .ok (.lload 4, 2) := by decide +kernel
theorem dX9_chance_43 : decode cX9_chance 43 = .ok (.ldc2_w 249, 3) := by decide +kernel
theorem dX9_chance_46 : decode cX9_chance 46 = .ok (.lmul, 1) := by decide +kernel
theorem dX9_chance_47 : decode cX9_chance 47 = .ok (.lstore 4, 2) := by decide +kernel
theorem dX9_chance_49 : decode cX9_chance 49 = .ok (.iinc 6 1, 3) := by decide +kernel
theorem dX9_chance_52 : decode cX9_chance 52 = .ok (.goto (-23), 3) := by decide +kernel
theorem dX9_chance_55 : decode cX9_chance 55 = .ok (.aload_n 0, 1) := by decide +kernel
theorem dX9_chance_56 : decode cX9_chance 56 = .ok (.iconst 0, 1) := by decide +kernel
theorem dX9_chance_57 : decode cX9_chance 57 = .ok (.iconst 1, 1) := by decide +kernel
theorem dX9_chance_58 : decode cX9_chance 58 = .ok (.iload_n 1, 1) := by decide +kernel
theorem dX9_chance_59 : decode cX9_chance 59 = .ok (.iload_n 2, 1) := by decide +kernel
theorem dX9_chance_60 : decode cX9_chance 60 = .ok (.invokevirtual 251, 3) := by decide +kernel
theorem dX9_chance_63 : decode cX9_chance 63 = .ok (.lload 4, 2) := by decide +kernel
theorem dX9_chance_65 : decode cX9_chance 65 = .ok (.iload_n 3, 1) := by decide +kernel
theorem dX9_chance_66 : decode cX9_chance 66 = .ok (.invokestatic 234, 3) := by decide +kernel
theorem dX9_chance_69 : decode cX9_chance 69 = .ok (.ireturn, 1) := by decide +kernel
theorem dX9_seed_0 : decode cX9_seed 0 = .ok (.aload_n 0, 1) := by decide +kernel
theorem dX9_seed_1 : decode cX9_seed 1 = .ok (.getfield 255, 3) := by decide +kernel
theorem dX9_seed_4 : decode cX9_seed 4 = .ok (.lstore_n 3, 1) := by decide +kernel
theorem dX9_seed_5 : decode cX9_seed 5 = .ok (.aload_n 0, 1) := by decide +kernel
theorem dX9_seed_6 : decode cX9_seed 6 = .ok (.lload_n 1, 1) := by decide +kernel
theorem dX9_seed_7 : decode cX9_seed 7 = .ok (.putfield 255, 3) := by decide +kernel
theorem dX9_seed_10 : decode cX9_seed 10 = .ok (.lload_n 3, 1) := by decide +kernel
theorem dX9_seed_11 : decode cX9_seed 11 = .ok (.lreturn, 1) := by decide +kernel
theorem dX9_drawn_0 : decode cX9_drawn 0 = .ok (.iload_n 1, 1) := by decide +kernel
theorem dX9_drawn_1 : decode cX9_drawn 1 = .ok (.iconst 1, 1) := by decide +kernel
theorem dX9_drawn_2 : decode cX9_drawn 2 = .ok (.if_icmp .lt 9, 3) := by decide +kernel
theorem dX9_drawn_5 : decode cX9_drawn 5 = .ok (.iload_n 1, 1) := by decide +kernel
theorem dX9_drawn_6 : decode cX9_drawn 6 = .ok (.bipush 40, 2) := by decide +kernel
theorem dX9_drawn_8 : decode cX9_drawn 8 = .ok (.if_icmp .le 6, 3) := by decide +kernel
theorem dX9_drawn_11 : decode cX9_drawn 11 = .ok (.bipush (-2), 2) := by decide +kernel
theorem dX9_drawn_13 : decode cX9_drawn 13 = .ok (.ireturn, 1) := by decide +kernel
theorem dX9_drawn_14 : decode cX9_drawn 14 = .ok (.aload_n 0, 1) := by decide +kernel
theorem dX9_drawn_15 : decode cX9_drawn 15 = .ok (.getfield 16, 3) := by decide +kernel
theorem dX9_drawn_18 : decode cX9_drawn 18 = .ok (.aload_n 0, 1) := by decide +kernel
theorem dX9_drawn_19 : decode cX9_drawn 19 = .ok (.getfield 10, 3) := by decide +kernel
theorem dX9_drawn_22 : decode cX9_drawn 22 = .ok (.invokevirtual 209, 3) := by decide +kernel
theorem dX9_drawn_25 : decode cX9_drawn 25 = .ok (.iconst 0, 1) := by decide +kernel
theorem dX9_drawn_26 : decode cX9_drawn 26 = .ok (.istore_n 2, 1) := by decide +kernel
theorem dX9_drawn_27 : decode cX9_drawn 27 = .ok (.iconst 0, 1) := by decide +kernel
theorem dX9_drawn_28 : decode cX9_drawn 28 = .ok (.istore_n 3, 1) := by decide +kernel
theorem dX9_drawn_29 : decode cX9_drawn 29 = .ok (.iload_n 3, 1) := by decide +kernel
theorem dX9_drawn_30 : decode cX9_drawn 30 = .ok (.iload_n 1, 1) := by decide +kernel
theorem dX9_drawn_31 : decode cX9_drawn 31 = .ok (.if_icmp .ge 51, 3) := by decide +kernel
theorem dX9_drawn_34 : decode cX9_drawn 34 = .ok (.aload_n 0, 1) := by decide +kernel
theorem dX9_drawn_35 : decode cX9_drawn 35 = .ok (.aload_n 0, 1) := by decide +kernel
theorem dX9_drawn_36 : decode cX9_drawn 36 = .ok (.getfield 255, 3) := by decide +kernel
theorem dX9_drawn_39 : decode cX9_drawn 39 = .ok (.ldc2_w 259, 3) := by decide +kernel
theorem dX9_drawn_42 : decode cX9_drawn 42 = .ok (.lmul, 1) := by decide +kernel
theorem dX9_drawn_43 : decode cX9_drawn 43 = .ok (.ldc2_w 261, 3) := by decide +kernel
theorem dX9_drawn_46 : decode cX9_drawn 46 = .ok (.ladd, 1) := by decide +kernel
theorem dX9_drawn_47 : decode cX9_drawn 47 = .ok (.putfield 255, 3) := by decide +kernel
theorem dX9_drawn_50 : decode cX9_drawn 50 = .ok (.aload_n 0, 1) := by decide +kernel
theorem dX9_drawn_51 : decode cX9_drawn 51 = .ok (.aload_n 0, 1) := by decide +kernel
theorem dX9_drawn_52 : decode cX9_drawn 52 = .ok (.getfield 255, 3) := by decide +kernel
theorem dX9_drawn_55 : decode cX9_drawn 55 = .ok (.bipush 33, 2) := by decide +kernel
theorem dX9_drawn_57 : decode cX9_drawn 57 = .ok (.lushr, 1) := by decide +kernel
theorem dX9_drawn_58 : decode cX9_drawn 58 = .ok (.l2i, 1) := by decide +kernel
theorem dX9_drawn_59 : decode cX9_drawn 59 = .ok (.invokevirtual 263, 3) := by decide +kernel
theorem dX9_drawn_62 : decode cX9_drawn 62 = .ok (.iload_n 2, 1) := by decide +kernel
theorem dX9_drawn_63 : decode cX9_drawn 63 = .ok (.aload_n 0, 1) := by decide +kernel
theorem dX9_drawn_64 : decode cX9_drawn 64 = .ok (.getfield 22, 3) := by decide +kernel
theorem dX9_drawn_67 : decode cX9_drawn 67 = .ok (.aload_n 0, 1) := by decide +kernel
theorem dX9_drawn_68 : decode cX9_drawn 68 = .ok (.getfield 16, 3) := by decide +kernel
theorem dX9_drawn_71 : decode cX9_drawn 71 = .ok (.invokevirtual 94, 3) := by decide +kernel
theorem dX9_drawn_74 : decode cX9_drawn 74 = .ok (.iadd, 1) := by decide +kernel
theorem dX9_drawn_75 : decode cX9_drawn 75 = .ok (.istore_n 2, 1) := by decide +kernel
theorem dX9_drawn_76 : decode cX9_drawn 76 = .ok (.iinc 3 1, 3) := by decide +kernel
theorem dX9_drawn_79 : decode cX9_drawn 79 = .ok (.goto (-50), 3) := by decide +kernel
theorem dX9_drawn_82 : decode cX9_drawn 82 = .ok (.iload_n 2, 1) := by decide +kernel
theorem dX9_drawn_83 : decode cX9_drawn 83 = .ok (.ireturn, 1) := by decide +kernel
theorem dX9_keep_0 : decode cX9_keep 0 = .ok (.iload_n 1, 1) := by decide +kernel
theorem dX9_keep_1 : decode cX9_keep 1 = .ok (.ifCond .lt 8, 3) := by decide +kernel
theorem dX9_keep_4 : decode cX9_keep 4 = .ok (.iload_n 1, 1) := by decide +kernel
theorem dX9_keep_5 : decode cX9_keep 5 = .ok (.iconst 2, 1) := by decide +kernel
theorem dX9_keep_6 : decode cX9_keep 6 = .ok (.if_icmp .lt 5, 3) := by decide +kernel
theorem dX9_keep_9 : decode cX9_keep 9 = .ok (.iconst (-1), 1) := by decide +kernel
theorem dX9_keep_10 : decode cX9_keep 10 = .ok (.ireturn, 1) := by decide +kernel
theorem dX9_keep_11 : decode cX9_keep 11 = .ok (.aload_n 0, 1) := by decide +kernel
theorem dX9_keep_12 : decode cX9_keep 12 = .ok (.getfield 57, 3) := by decide +kernel
theorem dX9_keep_15 : decode cX9_keep 15 = .ok (.iload_n 1, 1) := by decide +kernel
theorem dX9_keep_16 : decode cX9_keep 16 = .ok (.aload_n 0, 1) := by decide +kernel
theorem dX9_keep_17 : decode cX9_keep 17 = .ok (.getfield 10, 3) := by decide +kernel
theorem dX9_keep_20 : decode cX9_keep 20 = .ok (.invokevirtual 266, 3) := by decide +kernel
theorem dX9_keep_23 : decode cX9_keep 23 = .ok (.aload_n 0, 1) := by decide +kernel
theorem dX9_keep_24 : decode cX9_keep 24 = .ok (.getfield 22, 3) := by decide +kernel
theorem dX9_keep_27 : decode cX9_keep 27 = .ok (.aload_n 0, 1) := by decide +kernel
theorem dX9_keep_28 : decode cX9_keep 28 = .ok (.getfield 10, 3) := by decide +kernel
theorem dX9_keep_31 : decode cX9_keep 31 = .ok (.invokevirtual 94, 3) := by decide +kernel
theorem dX9_keep_34 : decode cX9_keep 34 = .ok (.ireturn, 1) := by decide +kernel
theorem dX9_again_0 : decode cX9_again 0 = .ok (.iload_n 1, 1) := by decide +kernel
theorem dX9_again_1 : decode cX9_again 1 = .ok (.ifCond .lt 8, 3) := by decide +kernel
theorem dX9_again_4 : decode cX9_again 4 = .ok (.iload_n 1, 1) := by decide +kernel
theorem dX9_again_5 : decode cX9_again 5 = .ok (.iconst 2, 1) := by decide +kernel
theorem dX9_again_6 : decode cX9_again 6 = .ok (.if_icmp .lt 5, 3) := by decide +kernel
theorem dX9_again_9 : decode cX9_again 9 = .ok (.iconst (-1), 1) := by decide +kernel
theorem dX9_again_10 : decode cX9_again 10 = .ok (.ireturn, 1) := by decide +kernel
theorem dX9_again_11 : decode cX9_again 11 = .ok (.aload_n 0, 1) := by decide +kernel
theorem dX9_again_12 : decode cX9_again 12 = .ok (.getfield 57, 3) := by decide +kernel
theorem dX9_again_15 : decode cX9_again 15 = .ok (.iload_n 1, 1) := by decide +kernel
theorem dX9_again_16 : decode cX9_again 16 = .ok (.aload_n 0, 1) := by decide +kernel
theorem dX9_again_17 : decode cX9_again 17 = .ok (.getfield 10, 3) := by decide +kernel
theorem dX9_again_20 : decode cX9_again 20 = .ok (.invokevirtual 270, 3) := by decide +kernel
theorem dX9_again_23 : decode cX9_again 23 = .ok (.ifCond .ne 6, 3) := by decide +kernel
theorem dX9_again_26 : decode cX9_again 26 = .ok (.bipush (-3), 2) := by decide +kernel
theorem dX9_again_28 : decode cX9_again 28 = .ok (.ireturn, 1) := by decide +kernel
theorem dX9_again_29 : decode cX9_again 29 = .ok (.aload_n 0, 1) := by decide +kernel
theorem dX9_again_30 : decode cX9_again 30 = .ok (.getfield 50, 3) := by decide +kernel
theorem dX9_again_33 : decode cX9_again 33 = .ok (.invokevirtual 90, 3) := by decide +kernel
theorem dX9_again_36 : decode cX9_again 36 = .ok (.aload_n 0, 1) := by decide +kernel
theorem dX9_again_37 : decode cX9_again 37 = .ok (.getfield 22, 3) := by decide +kernel
theorem dX9_again_40 : decode cX9_again 40 = .ok (.aload_n 0, 1) := by decide +kernel
theorem dX9_again_41 : decode cX9_again 41 = .ok (.getfield 10, 3) := by decide +kernel
theorem dX9_again_44 : decode cX9_again 44 = .ok (.invokevirtual 94, 3) := by decide +kernel
theorem dX9_again_47 : decode cX9_again 47 = .ok (.ireturn, 1) := by decide +kernel
theorem dX9_refusalOfMove_0 : decode cX9_refusalOfMove 0 = .ok (.iload_n 1, 1) := by decide +kernel
theorem dX9_refusalOfMove_1 : decode cX9_refusalOfMove 1 = .ok (.ifCond .eq 19, 3) := by decide +kernel
theorem dX9_refusalOfMove_4 : decode cX9_refusalOfMove 4 = .ok (.aload_n 0, 1) := by decide +kernel
theorem dX9_refusalOfMove_5 : decode cX9_refusalOfMove 5 = .ok (.iload_n 1, 1) := by decide +kernel
theorem dX9_refusalOfMove_6 : decode cX9_refusalOfMove 6 = .ok (.invokevirtual 117, 3) := by decide +kernel
theorem dX9_refusalOfMove_9 : decode cX9_refusalOfMove 9 = .ok (.ifCond .eq 11, 3) := by decide +kernel
theorem dX9_refusalOfMove_12 : decode cX9_refusalOfMove 12 = .ok (.aload_n 0, 1) := by decide +kernel
theorem dX9_refusalOfMove_13 : decode cX9_refusalOfMove 13 = .ok (.iload_n 2, 1) := by decide +kernel
theorem dX9_refusalOfMove_14 : decode cX9_refusalOfMove 14 = .ok (.invokevirtual 117, 3) := by decide +kernel
theorem dX9_refusalOfMove_17 : decode cX9_refusalOfMove 17 = .ok (.ifCond .ne 5, 3) := by decide +kernel
theorem dX9_refusalOfMove_20 : decode cX9_refusalOfMove 20 = .ok (.iconst (-1), 1) := by decide +kernel
theorem dX9_refusalOfMove_21 : decode cX9_refusalOfMove 21 = .ok (.ireturn, 1) := by decide +kernel
theorem dX9_refusalOfMove_22 : decode cX9_refusalOfMove 22 = .ok (.iload_n 2, 1) := by decide +kernel
theorem dX9_refusalOfMove_23 : decode cX9_refusalOfMove 23 = .ok (.aload_n 0, 1) := by decide +kernel
theorem dX9_refusalOfMove_24 : decode cX9_refusalOfMove 24 = .ok (.iload_n 1, 1) := by decide +kernel
theorem dX9_refusalOfMove_25 : decode cX9_refusalOfMove 25 = .ok (.invokevirtual 127, 3) := by decide +kernel
theorem dX9_refusalOfMove_28 : decode cX9_refusalOfMove 28 = .ok (.if_icmp .eq 15, 3) := by decide +kernel
theorem dX9_refusalOfMove_31 : decode cX9_refusalOfMove 31 = .ok (.aload_n 0, 1) := by decide +kernel
theorem dX9_refusalOfMove_32 : decode cX9_refusalOfMove 32 = .ok (.iload_n 1, 1) := by decide +kernel
theorem dX9_refusalOfMove_33 : decode cX9_refusalOfMove 33 = .ok (.invokevirtual 274, 3) := by decide +kernel
theorem dX9_refusalOfMove_36 : decode cX9_refusalOfMove 36 = .ok (.iload_n 2, 1) := by decide +kernel
theorem dX9_refusalOfMove_37 : decode cX9_refusalOfMove 37 = .ok (.ishr, 1) := by decide +kernel
theorem dX9_refusalOfMove_38 : decode cX9_refusalOfMove 38 = .ok (.iconst 1, 1) := by decide +kernel
theorem dX9_refusalOfMove_39 : decode cX9_refusalOfMove 39 = .ok (.iand, 1) := by decide +kernel
theorem dX9_refusalOfMove_40 : decode cX9_refusalOfMove 40 = .ok (.ifCond .eq 7, 3) := by decide +kernel
theorem dX9_refusalOfMove_43 : decode cX9_refusalOfMove 43 = .ok (.iconst 1, 1) := by decide +kernel
theorem dX9_refusalOfMove_44 : decode cX9_refusalOfMove 44 = .ok (.goto 4, 3) := by decide +kernel
theorem dX9_refusalOfMove_47 : decode cX9_refusalOfMove 47 = .ok (.iconst 0, 1) := by decide +kernel
theorem dX9_refusalOfMove_48 : decode cX9_refusalOfMove 48 = .ok (.istore_n 3, 1) := by decide +kernel
theorem dX9_refusalOfMove_49 : decode cX9_refusalOfMove 49 = .ok (.iload_n 3, 1) := by decide +kernel
theorem dX9_refusalOfMove_50 : decode cX9_refusalOfMove 50 = .ok (.ifCond .eq 8, 3) := by decide +kernel
theorem dX9_refusalOfMove_53 : decode cX9_refusalOfMove 53 = .ok (.bipush (-3), 2) := by decide +kernel
theorem dX9_refusalOfMove_55 : decode cX9_refusalOfMove 55 = .ok (.goto 4, 3) := by decide +kernel
theorem dX9_refusalOfMove_58 : decode cX9_refusalOfMove 58 = .ok (.iconst 0, 1) := by decide +kernel
theorem dX9_refusalOfMove_59 : decode cX9_refusalOfMove 59 = .ok (.ireturn, 1) := by decide +kernel
theorem dX9_refusalOfChange_0 : decode cX9_refusalOfChange 0 = .ok (.aload_n 0, 1) := by decide +kernel
theorem dX9_refusalOfChange_1 : decode cX9_refusalOfChange 1 = .ok (.iload_n 1, 1) := by decide +kernel
theorem dX9_refusalOfChange_2 : decode cX9_refusalOfChange 2 = .ok (.invokevirtual 142, 3) := by decide +kernel
theorem dX9_refusalOfChange_5 : decode cX9_refusalOfChange 5 = .ok (.ifCond .eq 13, 3) := by decide +kernel
theorem dX9_refusalOfChange_8 : decode cX9_refusalOfChange 8 = .ok (.aload_n 0, 1) := by decide +kernel
theorem dX9_refusalOfChange_9 : decode cX9_refusalOfChange 9 = .ok (.iload_n 1, 1) := by decide +kernel
theorem dX9_refusalOfChange_10 : decode cX9_refusalOfChange 10 = .ok (.iconst 1, 1) := by decide +kernel
theorem dX9_refusalOfChange_11 : decode cX9_refusalOfChange 11 = .ok (.iadd, 1) := by decide +kernel
theorem dX9_refusalOfChange_12 : decode cX9_refusalOfChange 12 = .ok (.invokevirtual 142, 3) := by decide +kernel
theorem dX9_refusalOfChange_15 : decode cX9_refusalOfChange 15 = .ok (.ifCond .ne 5, 3) := by decide +kernel
theorem dX9_refusalOfChange_18 : decode cX9_refusalOfChange 18 = .ok (.iconst (-1), 1) := by decide +kernel
theorem dX9_refusalOfChange_19 : decode cX9_refusalOfChange 19 = .ok (.ireturn, 1) := by decide +kernel
theorem dX9_refusalOfChange_20 : decode cX9_refusalOfChange 20 = .ok (.aload_n 0, 1) := by decide +kernel
theorem dX9_refusalOfChange_21 : decode cX9_refusalOfChange 21 = .ok (.aload_n 0, 1) := by decide +kernel
theorem dX9_refusalOfChange_22 : decode cX9_refusalOfChange 22 = .ok (.iload_n 1, 1) := by decide +kernel
theorem dX9_refusalOfChange_23 : decode cX9_refusalOfChange 23 = .ok (.iconst 1, 1) := by decide +kernel
theorem dX9_refusalOfChange_24 : decode cX9_refusalOfChange 24 = .ok (.iadd, 1) := by decide +kernel
theorem dX9_refusalOfChange_25 : decode cX9_refusalOfChange 25 = .ok (.invokevirtual 145, 3) := by decide +kernel
theorem dX9_refusalOfChange_28 : decode cX9_refusalOfChange 28 = .ok (.invokevirtual 127, 3) := by decide +kernel
theorem dX9_refusalOfChange_31 : decode cX9_refusalOfChange 31 = .ok (.aload_n 0, 1) := by decide +kernel
theorem dX9_refusalOfChange_32 : decode cX9_refusalOfChange 32 = .ok (.iload_n 1, 1) := by decide +kernel
theorem dX9_refusalOfChange_33 : decode cX9_refusalOfChange 33 = .ok (.invokevirtual 145, 3) := by decide +kernel
theorem dX9_refusalOfChange_36 : decode cX9_refusalOfChange 36 = .ok (.if_icmp .ne 8, 3) := by decide +kernel
theorem dX9_refusalOfChange_39 : decode cX9_refusalOfChange 39 = .ok (.bipush (-3), 2) := by decide +kernel
theorem dX9_refusalOfChange_41 : decode cX9_refusalOfChange 41 = .ok (.goto 4, 3) := by decide +kernel
theorem dX9_refusalOfChange_44 : decode cX9_refusalOfChange 44 = .ok (.iconst 0, 1) := by decide +kernel
theorem dX9_refusalOfChange_45 : decode cX9_refusalOfChange 45 = .ok (.ireturn, 1) := by decide +kernel
theorem dX9_refusalOfSet_0 : decode cX9_refusalOfSet 0 = .ok (.aload_n 0, 1) := by decide +kernel
theorem dX9_refusalOfSet_1 : decode cX9_refusalOfSet 1 = .ok (.iload_n 1, 1) := by decide +kernel
theorem dX9_refusalOfSet_2 : decode cX9_refusalOfSet 2 = .ok (.invokevirtual 117, 3) := by decide +kernel
theorem dX9_refusalOfSet_5 : decode cX9_refusalOfSet 5 = .ok (.ifCond .ne 5, 3) := by decide +kernel
theorem dX9_refusalOfSet_8 : decode cX9_refusalOfSet 8 = .ok (.iconst (-1), 1) := by decide +kernel
theorem dX9_refusalOfSet_9 : decode cX9_refusalOfSet 9 = .ok (.ireturn, 1) := by decide +kernel
theorem dX9_refusalOfSet_10 : decode cX9_refusalOfSet 10 = .ok (.iload_n 2, 1) := by decide +kernel
theorem dX9_refusalOfSet_11 : decode cX9_refusalOfSet 11 = .ok (.ifCond .lt 17, 3) := by decide +kernel
theorem dX9_refusalOfSet_14 : decode cX9_refusalOfSet 14 = .ok (.iload_n 2, 1) := by decide +kernel
theorem dX9_refusalOfSet_15 : decode cX9_refusalOfSet 15 = .ok (.iconst 2, 1) := by decide +kernel
theorem dX9_refusalOfSet_16 : decode cX9_refusalOfSet 16 = .ok (.if_icmp .gt 12, 3) := by decide +kernel
theorem dX9_refusalOfSet_19 : decode cX9_refusalOfSet 19 = .ok (.iload_n 2, 1) := by decide +kernel
theorem dX9_refusalOfSet_20 : decode cX9_refusalOfSet 20 = .ok (.iconst 2, 1) := by decide +kernel
theorem dX9_refusalOfSet_21 : decode cX9_refusalOfSet 21 = .ok (.if_icmp .ne 10, 3) := by decide +kernel
theorem dX9_refusalOfSet_24 : decode cX9_refusalOfSet 24 = .ok (.iload_n 1, 1) := by decide +kernel
theorem dX9_refusalOfSet_25 : decode cX9_refusalOfSet 25 = .ok (.ifCond .eq 6, 3) := by decide +kernel
theorem dX9_refusalOfSet_28 : decode cX9_refusalOfSet 28 = .ok (.bipush (-2), 2) := by decide +kernel
theorem dX9_refusalOfSet_30 : decode cX9_refusalOfSet 30 = .ok (.ireturn, 1) := by decide +kernel
theorem dX9_refusalOfSet_31 : decode cX9_refusalOfSet 31 = .ok (.iload_n 2, 1) := by decide +kernel
theorem dX9_refusalOfSet_32 : decode cX9_refusalOfSet 32 = .ok (.ifCond .ne 8, 3) := by decide +kernel
theorem dX9_refusalOfSet_35 : decode cX9_refusalOfSet 35 = .ok (.bipush 9, 2) := by decide +kernel
theorem dX9_refusalOfSet_37 : decode cX9_refusalOfSet 37 = .ok (.goto 13, 3) := by decide +kernel
theorem dX9_refusalOfSet_40 : decode cX9_refusalOfSet 40 = .ok (.iload_n 2, 1) := by decide +kernel
theorem dX9_refusalOfSet_41 : decode cX9_refusalOfSet 41 = .ok (.iconst 1, 1) := by decide +kernel
theorem dX9_refusalOfSet_42 : decode cX9_refusalOfSet 42 = .ok (.if_icmp .ne 7, 3) := by decide +kernel
theorem dX9_refusalOfSet_45 : decode cX9_refusalOfSet 45 = .ok (.iconst 5, 1) := by decide +kernel
theorem dX9_refusalOfSet_46 : decode cX9_refusalOfSet 46 = .ok (.goto 4, 3) := by decide +kernel
theorem dX9_refusalOfSet_49 : decode cX9_refusalOfSet 49 = .ok (.iconst 3, 1) := by decide +kernel
theorem dX9_refusalOfSet_50 : decode cX9_refusalOfSet 50 = .ok (.istore 4, 2) := by decide +kernel
theorem dX9_refusalOfSet_52 : decode cX9_refusalOfSet 52 = .ok (.iload_n 3, 1) := by decide +kernel
theorem dX9_refusalOfSet_53 : decode cX9_refusalOfSet 53 = .ok (.iconst 1, 1) := by decide +kernel
theorem dX9_refusalOfSet_54 : decode cX9_refusalOfSet 54 = .ok (.if_icmp .lt 9, 3) := by decide +kernel
theorem dX9_refusalOfSet_57 : decode cX9_refusalOfSet 57 = .ok (.iload_n 3, 1) := by decide +kernel
theorem dX9_refusalOfSet_58 : decode cX9_refusalOfSet 58 = .ok (.iload 4, 2) := by decide +kernel
theorem dX9_refusalOfSet_60 : decode cX9_refusalOfSet 60 = .ok (.if_icmp .le 8, 3) := by decide +kernel
theorem dX9_refusalOfSet_63 : decode cX9_refusalOfSet 63 = .ok (.bipush (-2), 2) := by decide +kernel
theorem dX9_refusalOfSet_65 : decode cX9_refusalOfSet 65 = .ok (.goto 4, 3) := by decide +kernel
theorem dX9_refusalOfSet_68 : decode cX9_refusalOfSet 68 = .ok (.iconst 0, 1) := by decide +kernel
theorem dX9_refusalOfSet_69 : decode cX9_refusalOfSet 69 = .ok (.ireturn, 1) := by decide +kernel
theorem dX9_lastIfQuick_0 : decode cX9_lastIfQuick 0 = .ok (.aload_n 0, 1) := by decide +kernel
theorem dX9_lastIfQuick_1 : decode cX9_lastIfQuick 1 = .ok (.getfield 16, 3) := by decide +kernel
theorem dX9_lastIfQuick_4 : decode cX9_lastIfQuick 4 = .ok (.aload_n 0, 1) := by decide +kernel
theorem dX9_lastIfQuick_5 : decode cX9_lastIfQuick 5 = .ok (.getfield 10, 3) := by decide +kernel
theorem dX9_lastIfQuick_8 : decode cX9_lastIfQuick 8 = .ok (.invokevirtual 209, 3) := by decide +kernel
theorem dX9_lastIfQuick_11 : decode cX9_lastIfQuick 11 = .ok (.aload_n 0, 1) := by decide +kernel
theorem dX9_lastIfQuick_12 : decode cX9_lastIfQuick 12 = .ok (.getfield 29, 3) := by decide +kernel
theorem dX9_lastIfQuick_15 : decode cX9_lastIfQuick 15 = .ok (.aload_n 0, 1) := by decide +kernel
theorem dX9_lastIfQuick_16 : decode cX9_lastIfQuick 16 = .ok (.getfield 16, 3) := by decide +kernel
theorem dX9_lastIfQuick_19 : decode cX9_lastIfQuick 19 = .ok (.invokevirtual 179, 3) := by decide +kernel
theorem dX9_lastIfQuick_22 : decode cX9_lastIfQuick 22 = .ok (.aload_n 0, 1) := by decide +kernel
theorem dX9_lastIfQuick_23 : decode cX9_lastIfQuick 23 = .ok (.getfield 22, 3) := by decide +kernel
theorem dX9_lastIfQuick_26 : decode cX9_lastIfQuick 26 = .ok (.aload_n 0, 1) := by decide +kernel
theorem dX9_lastIfQuick_27 : decode cX9_lastIfQuick 27 = .ok (.getfield 16, 3) := by decide +kernel
theorem dX9_lastIfQuick_30 : decode cX9_lastIfQuick 30 = .ok (.invokevirtual 94, 3) := by decide +kernel
theorem dX9_lastIfQuick_33 : decode cX9_lastIfQuick 33 = .ok (.ireturn, 1) := by decide +kernel
theorem dX9_slackOf_0 : decode cX9_slackOf 0 = .ok (.aload_n 0, 1) := by decide +kernel
theorem dX9_slackOf_1 : decode cX9_slackOf 1 = .ok (.getfield 22, 3) := by decide +kernel
theorem dX9_slackOf_4 : decode cX9_slackOf 4 = .ok (.aload_n 0, 1) := by decide +kernel
theorem dX9_slackOf_5 : decode cX9_slackOf 5 = .ok (.getfield 10, 3) := by decide +kernel
theorem dX9_slackOf_8 : decode cX9_slackOf 8 = .ok (.invokevirtual 94, 3) := by decide +kernel
theorem dX9_slackOf_11 : decode cX9_slackOf 11 = .ok (.istore_n 2, 1) := by decide +kernel
theorem dX9_slackOf_12 : decode cX9_slackOf 12 = .ok (.aload_n 0, 1) := by decide +kernel
theorem dX9_slackOf_13 : decode cX9_slackOf 13 = .ok (.getfield 16, 3) := by decide +kernel
theorem dX9_slackOf_16 : decode cX9_slackOf 16 = .ok (.aload_n 0, 1) := by decide +kernel
theorem dX9_slackOf_17 : decode cX9_slackOf 17 = .ok (.getfield 10, 3) := by decide +kernel
theorem dX9_slackOf_20 : decode cX9_slackOf 20 = .ok (.invokevirtual 209, 3) := by decide +kernel
theorem dX9_slackOf_23 : decode cX9_slackOf 23 = .ok (.iconst 1, 1) := by decide +kernel
theorem dX9_slackOf_24 : decode cX9_slackOf 24 = .ok (.istore_n 3, 1) := by decide +kernel
theorem dX9_slackOf_25 : decode cX9_slackOf 25 = .ok (.iload_n 3, 1) := by decide +kernel
theorem dX9_slackOf_26 : decode cX9_slackOf 26 = .ok (.bipush 30, 2) := by decide +kernel
theorem dX9_slackOf_28 : decode cX9_slackOf 28 = .ok (.if_icmp .gt 46, 3) := by decide +kernel
theorem dX9_slackOf_31 : decode cX9_slackOf 31 = .ok (.aload_n 0, 1) := by decide +kernel
theorem dX9_slackOf_32 : decode cX9_slackOf 32 = .ok (.getfield 16, 3) := by decide +kernel
theorem dX9_slackOf_35 : decode cX9_slackOf 35 = .ok (.iload_n 1, 1) := by decide +kernel
theorem dX9_slackOf_36 : decode cX9_slackOf 36 = .ok (.aload_n 0, 1) := by decide +kernel
theorem dX9_slackOf_37 : decode cX9_slackOf 37 = .ok (.getfield 10, 3) := by decide +kernel
theorem dX9_slackOf_40 : decode cX9_slackOf 40 = .ok (.iload_n 1, 1) := by decide +kernel
theorem dX9_slackOf_41 : decode cX9_slackOf 41 = .ok (.invokevirtual 120, 3) := by decide +kernel
theorem dX9_slackOf_44 : decode cX9_slackOf 44 = .ok (.iload_n 3, 1) := by decide +kernel
theorem dX9_slackOf_45 : decode cX9_slackOf 45 = .ok (.iadd, 1) := by decide +kernel
theorem dX9_slackOf_46 : decode cX9_slackOf 46 = .ok (.invokevirtual 224, 3) := by decide +kernel
theorem dX9_slackOf_49 : decode cX9_slackOf 49 = .ok (.aload_n 0, 1) := by decide +kernel
theorem dX9_slackOf_50 : decode cX9_slackOf 50 = .ok (.getfield 22, 3) := by decide +kernel
theorem dX9_slackOf_53 : decode cX9_slackOf 53 = .ok (.aload_n 0, 1) := by decide +kernel
theorem dX9_slackOf_54 : decode cX9_slackOf 54 = .ok (.getfield 16, 3) := by decide +kernel
theorem dX9_slackOf_57 : decode cX9_slackOf 57 = .ok (.invokevirtual 94, 3) := by decide +kernel
theorem dX9_slackOf_60 : decode cX9_slackOf 60 = .ok (.iload_n 2, 1) := by decide +kernel
theorem dX9_slackOf_61 : decode cX9_slackOf 61 = .ok (.if_icmp .le 7, 3) := by decide +kernel
theorem dX9_slackOf_64 : decode cX9_slackOf 64 = .ok (.iload_n 3, 1) := by decide +kernel
theorem dX9_slackOf_65 : decode cX9_slackOf 65 = .ok (.iconst 1, 1) := by decide +kernel
theorem dX9_slackOf_66 : decode cX9_slackOf 66 = .ok (.isub, 1) := by decide +kernel
theorem dX9_slackOf_67 : decode cX9_slackOf 67 = .ok (.ireturn, 1) := by decide +kernel
theorem dX9_slackOf_68 : decode cX9_slackOf 68 = .ok (.iinc 3 1, 3) := by decide +kernel
theorem dX9_slackOf_71 : decode cX9_slackOf 71 = .ok (.goto (-46), 3) := by decide +kernel
theorem dX9_slackOf_74 : decode cX9_slackOf 74 = .ok (.bipush 30, 2) := by decide +kernel
theorem dX9_slackOf_76 : decode cX9_slackOf 76 = .ok (.ireturn, 1) := by decide +kernel
theorem dX9_gatheredFrom_0 : decode cX9_gatheredFrom 0 = .ok (.iload_n 1, 1) := by decide +kernel
theorem dX9_gatheredFrom_1 : decode cX9_gatheredFrom 1 = .ok (.ifCond .ne 6, 3) := by decide +kernel
theorem dX9_gatheredFrom_4 : decode cX9_gatheredFrom 4 = .ok (.bipush (-9), 2) := by decide +kernel
theorem dX9_gatheredFrom_6 : decode cX9_gatheredFrom 6 = .ok (.ireturn, 1) := by decide +kernel
theorem dX9_gatheredFrom_7 : decode cX9_gatheredFrom 7 = .ok (.aload_n 0, 1) := by decide +kernel
theorem dX9_gatheredFrom_8 : decode cX9_gatheredFrom 8 = .ok (.getfield 22, 3) := by decide +kernel
theorem dX9_gatheredFrom_11 : decode cX9_gatheredFrom 11 = .ok (.aload_n 0, 1) := by decide +kernel
theorem dX9_gatheredFrom_12 : decode cX9_gatheredFrom 12 = .ok (.getfield 10, 3) := by decide +kernel
theorem dX9_gatheredFrom_15 : decode cX9_gatheredFrom 15 = .ok (.invokevirtual 94, 3) := by decide +kernel
theorem dX9_gatheredFrom_18 : decode cX9_gatheredFrom 18 = .ok (.istore_n 2, 1) := by decide +kernel
theorem dX9_gatheredFrom_19 : decode cX9_gatheredFrom 19 = .ok (.iload_n 2, 1) := by decide +kernel
theorem dX9_gatheredFrom_20 : decode cX9_gatheredFrom 20 = .ok (.aload_n 0, 1) := by decide +kernel
theorem dX9_gatheredFrom_21 : decode cX9_gatheredFrom 21 = .ok (.getfield 22, 3) := by decide +kernel
theorem dX9_gatheredFrom_24 : decode cX9_gatheredFrom 24 = .ok (.iload_n 1, 1) := by decide +kernel
theorem dX9_gatheredFrom_25 : decode cX9_gatheredFrom 25 = .ok (.aload_n 0, 1) := by decide +kernel
theorem dX9_gatheredFrom_26 : decode cX9_gatheredFrom 26 = .ok (.getfield 10, 3) := by decide +kernel
theorem dX9_gatheredFrom_29 : decode cX9_gatheredFrom 29 = .ok (.invokevirtual 101, 3) := by decide +kernel
theorem dX9_gatheredFrom_32 : decode cX9_gatheredFrom 32 = .ok (.iconst 1, 1) := by decide +kernel
theorem dX9_gatheredFrom_33 : decode cX9_gatheredFrom 33 = .ok (.isub, 1) := by decide +kernel
theorem dX9_gatheredFrom_34 : decode cX9_gatheredFrom 34 = .ok (.invokevirtual 151, 3) := by decide +kernel
theorem dX9_gatheredFrom_37 : decode cX9_gatheredFrom 37 = .ok (.isub, 1) := by decide +kernel
theorem dX9_gatheredFrom_38 : decode cX9_gatheredFrom 38 = .ok (.ireturn, 1) := by decide +kernel
theorem dX9_readDoings_0 : decode cX9_readDoings 0 = .ok (.lload_n 2, 1) := by decide +kernel
theorem dX9_readDoings_1 : decode cX9_readDoings 1 = .ok (.lstore 4, 2) := by decide +kernel
theorem dX9_readDoings_3 : decode cX9_readDoings 3 = .ok (.iload_n 1, 1) := by decide +kernel
theorem dX9_readDoings_4 : decode cX9_readDoings 4 = .ok (.iconst 1, 1) := by decide +kernel
theorem dX9_readDoings_5 : decode cX9_readDoings 5 = .ok (.isub, 1) := by decide +kernel
theorem dX9_readDoings_6 : decode cX9_readDoings 6 = .ok (.istore 6, 2) := by decide +kernel
theorem dX9_readDoings_8 : decode cX9_readDoings 8 = .ok (.iload 6, 2) := by decide +kernel
theorem dX9_readDoings_10 : decode cX9_readDoings 10 = .ok (.ifCond .lt 33, 3) := by decide +kernel
theorem dX9_readDoings_13 : decode cX9_readDoings 13 = .ok (.aload_n 0, 1) := by decide +kernel
theorem dX9_readDoings_14 : decode cX9_readDoings 14 = .ok (.getfield 68, 3) := by decide +kernel
theorem dX9_readDoings_17 : decode cX9_readDoings 17 = .ok (.iload 6, 2) := by decide +kernel
theorem dX9_readDoings_19 : decode cX9_readDoings 19 = .ok (.lload 4, 2) := by decide +kernel
theorem dX9_readDoings_21 : decode cX9_readDoings 21 = .ok (.ldc2_w 277, 3) := by decide +kernel
theorem dX9_readDoings_24 : decode cX9_readDoings 24 = .ok (.lrem, 1) := by decide +kernel
theorem dX9_readDoings_25 : decode cX9_readDoings 25 = .ok (.l2i, 1) := by decide +kernel
theorem dX9_readDoings_26 : decode cX9_readDoings 26 = .ok (.invokestatic 279, 3) := by decide +kernel
theorem dX9_readDoings_29 : decode cX9_readDoings 29 = .ok (.lload 4, 2) := by decide +kernel
theorem dX9_readDoings_31 : decode cX9_readDoings 31 = .ok (.ldc2_w 277, 3) := by decide +kernel
theorem dX9_readDoings_34 : decode cX9_readDoings 34 = .ok (.ldiv, 1) := by decide +kernel
theorem dX9_readDoings_35 : decode cX9_readDoings 35 = .ok (.lstore 4, 2) := by decide +kernel
theorem dX9_readDoings_37 : decode cX9_readDoings 37 = .ok (.iinc 6 (-1), 3) := by decide +kernel
theorem dX9_readDoings_40 : decode cX9_readDoings 40 = .ok (.goto (-32), 3) := by decide +kernel
theorem dX9_readDoings_43 : decode cX9_readDoings 43 = .ok (.lload 4, 2) := by decide +kernel
theorem dX9_readDoings_45 : decode cX9_readDoings 45 = .ok (.lconst 0, 1) := by decide +kernel
theorem dX9_readDoings_46 : decode cX9_readDoings 46 = .ok (.lcmp, 1) := by decide +kernel
theorem dX9_readDoings_47 : decode cX9_readDoings 47 = .ok (.ifCond .ne 7, 3) := by decide +kernel
theorem dX9_readDoings_50 : decode cX9_readDoings 50 = .ok (.iconst 1, 1) := by decide +kernel
theorem dX9_readDoings_51 : decode cX9_readDoings 51 = .ok (.goto 4, 3) := by decide +kernel
theorem dX9_readDoings_54 : decode cX9_readDoings 54 = .ok (.iconst 0, 1) := by decide +kernel
theorem dX9_readDoings_55 : decode cX9_readDoings 55 = .ok (.ireturn, 1) := by decide +kernel
theorem dX9_canBe_0 : decode cX9_canBe 0 = .ok (.iload_n 1, 1) := by decide +kernel
theorem dX9_canBe_1 : decode cX9_canBe 1 = .ok (.tableswitch 195 1 7 #[43, 50, 68, 91, 98, 124, 166], 43) := by decide +kernel
theorem dX9_canBe_44 : decode cX9_canBe 44 = .ok (.aload_n 0, 1) := by decide +kernel
theorem dX9_canBe_45 : decode cX9_canBe 45 = .ok (.iload_n 2, 1) := by decide +kernel
theorem dX9_canBe_46 : decode cX9_canBe 46 = .ok (.iload_n 3, 1) := by decide +kernel
theorem dX9_canBe_47 : decode cX9_canBe 47 = .ok (.invokevirtual 283, 3) := by decide +kernel
theorem dX9_canBe_50 : decode cX9_canBe 50 = .ok (.ireturn, 1) := by decide +kernel
theorem dX9_canBe_51 : decode cX9_canBe 51 = .ok (.iload_n 2, 1) := by decide +kernel
theorem dX9_canBe_52 : decode cX9_canBe 52 = .ok (.ifCond .ne 15, 3) := by decide +kernel
theorem dX9_canBe_55 : decode cX9_canBe 55 = .ok (.aload_n 0, 1) := by decide +kernel
theorem dX9_canBe_56 : decode cX9_canBe 56 = .ok (.iload_n 3, 1) := by decide +kernel
theorem dX9_canBe_57 : decode cX9_canBe 57 = .ok (.invokevirtual 286, 3) := by decide +kernel
theorem dX9_canBe_60 : decode cX9_canBe 60 = .ok (.ifCond .eq 7, 3) := by decide +kernel
theorem dX9_canBe_63 : decode cX9_canBe 63 = .ok (.iconst 1, 1) := by decide +kernel
theorem dX9_canBe_64 : decode cX9_canBe 64 = .ok (.goto 4, 3) := by decide +kernel
theorem dX9_canBe_67 : decode cX9_canBe 67 = .ok (.iconst 0, 1) := by decide +kernel
theorem dX9_canBe_68 : decode cX9_canBe 68 = .ok (.ireturn, 1) := by decide +kernel
theorem dX9_canBe_69 : decode cX9_canBe 69 = .ok (.iload_n 2, 1) := by decide +kernel
theorem dX9_canBe_70 : decode cX9_canBe 70 = .ok (.ifCond .ne 7, 3) := by decide +kernel
theorem dX9_canBe_73 : decode cX9_canBe 73 = .ok (.iload_n 3, 1) := by decide +kernel
theorem dX9_canBe_74 : decode cX9_canBe 74 = .ok (.ifCond .eq 5, 3) := by decide +kernel
theorem dX9_canBe_77 : decode cX9_canBe 77 = .ok (.iconst 0, 1) := by decide +kernel
theorem dX9_canBe_78 : decode cX9_canBe 78 = .ok (.ireturn, 1) := by decide +kernel
theorem dX9_canBe_79 : decode cX9_canBe 79 = .ok (.aload_n 0, 1) := by decide +kernel
theorem dX9_canBe_80 : decode cX9_canBe 80 = .ok (.getfield 29, 3) := by decide +kernel
theorem dX9_canBe_83 : decode cX9_canBe 83 = .ok (.aload_n 0, 1) := by decide +kernel
theorem dX9_canBe_84 : decode cX9_canBe 84 = .ok (.getfield 16, 3) := by decide +kernel
theorem dX9_canBe_87 : decode cX9_canBe 87 = .ok (.invokevirtual 179, 3) := by decide +kernel
theorem dX9_canBe_90 : decode cX9_canBe 90 = .ok (.iconst 1, 1) := by decide +kernel
theorem dX9_canBe_91 : decode cX9_canBe 91 = .ok (.ireturn, 1) := by decide +kernel
theorem dX9_canBe_92 : decode cX9_canBe 92 = .ok (.aload_n 0, 1) := by decide +kernel
theorem dX9_canBe_93 : decode cX9_canBe 93 = .ok (.iload_n 2, 1) := by decide +kernel
theorem dX9_canBe_94 : decode cX9_canBe 94 = .ok (.iload_n 3, 1) := by decide +kernel
theorem dX9_canBe_95 : decode cX9_canBe 95 = .ok (.invokevirtual 289, 3) := by decide +kernel
theorem dX9_canBe_98 : decode cX9_canBe 98 = .ok (.ireturn, 1) := by decide +kernel
theorem dX9_canBe_99 : decode cX9_canBe 99 = .ok (.aload_n 0, 1) := by decide +kernel
theorem dX9_canBe_100 : decode cX9_canBe 100 = .ok (.getfield 22, 3) := by decide +kernel
theorem dX9_canBe_103 : decode cX9_canBe 103 = .ok (.aload_n 0, 1) := by decide +kernel
theorem dX9_canBe_104 : decode cX9_canBe 104 = .ok (.getfield 16, 3) := by decide +kernel
theorem dX9_canBe_107 : decode cX9_canBe 107 = .ok (.invokevirtual 94, 3) := by decide +kernel
theorem dX9_canBe_110 : decode cX9_canBe 110 = .ok (.bipush 10, 2) := by decide +kernel
theorem dX9_canBe_112 : decode cX9_canBe 112 = .ok (.iload_n 2, 1) := by decide +kernel
theorem dX9_canBe_113 : decode cX9_canBe 113 = .ok (.imul, 1) := by decide +kernel
theorem dX9_canBe_114 : decode cX9_canBe 114 = .ok (.iload_n 3, 1) := by decide +kernel
theorem dX9_canBe_115 : decode cX9_canBe 115 = .ok (.iadd, 1) := by decide +kernel
theorem dX9_canBe_116 : decode cX9_canBe 116 = .ok (.if_icmp .ne 7, 3) := by decide +kernel
theorem dX9_canBe_119 : decode cX9_canBe 119 = .ok (.iconst 1, 1) := by decide +kernel
theorem dX9_canBe_120 : decode cX9_canBe 120 = .ok (.goto 4, 3) := by decide +kernel
theorem dX9_canBe_123 : decode cX9_canBe 123 = .ok (.iconst 0, 1) := by decide +kernel
theorem dX9_canBe_124 : decode cX9_canBe 124 = .ok (.ireturn, 1) := by decide +kernel
theorem dX9_canBe_125 : decode cX9_canBe 125 = .ok (.aload_n 0, 1) := by decide +kernel
theorem dX9_canBe_126 : decode cX9_canBe 126 = .ok (.getfield 22, 3) := by decide +kernel
theorem dX9_canBe_129 : decode cX9_canBe 129 = .ok (.aload_n 0, 1) := by decide +kernel
theorem dX9_canBe_130 : decode cX9_canBe 130 = .ok (.getfield 16, 3) := by decide +kernel
theorem dX9_canBe_133 : decode cX9_canBe 133 = .ok (.invokevirtual 94, 3) := by decide +kernel
theorem dX9_canBe_136 : decode cX9_canBe 136 = .ok (.pop, 1) := by decide +kernel
theorem dX9_canBe_137 : decode cX9_canBe 137 = .ok (.aload_n 0, 1) := by decide +kernel
theorem dX9_canBe_138 : decode cX9_canBe 138 = .ok (.getfield 16, 3) := by decide +kernel
theorem dX9_canBe_141 : decode cX9_canBe 141 = .ok (.iload_n 2, 1) := by decide +kernel
theorem dX9_canBe_142 : decode cX9_canBe 142 = .ok (.invokevirtual 117, 3) := by decide +kernel
theorem dX9_canBe_145 : decode cX9_canBe 145 = .ok (.ifCond .eq 20, 3) := by decide +kernel
theorem dX9_canBe_148 : decode cX9_canBe 148 = .ok (.aload_n 0, 1) := by decide +kernel
theorem dX9_canBe_149 : decode cX9_canBe 149 = .ok (.getfield 22, 3) := by decide +kernel
theorem dX9_canBe_152 : decode cX9_canBe 152 = .ok (.iload_n 2, 1) := by decide +kernel
theorem dX9_canBe_153 : decode cX9_canBe 153 = .ok (.iconst 0, 1) := by decide +kernel
theorem dX9_canBe_154 : decode cX9_canBe 154 = .ok (.invokevirtual 151, 3) := by decide +kernel
theorem dX9_canBe_157 : decode cX9_canBe 157 = .ok (.iload_n 3, 1) := by decide +kernel
theorem dX9_canBe_158 : decode cX9_canBe 158 = .ok (.if_icmp .gt 7, 3) := by decide +kernel
theorem dX9_canBe_161 : decode cX9_canBe 161 = .ok (.iconst 1, 1) := by decide +kernel
theorem dX9_canBe_162 : decode cX9_canBe 162 = .ok (.goto 4, 3) := by decide +kernel
theorem dX9_canBe_165 : decode cX9_canBe 165 = .ok (.iconst 0, 1) := by decide +kernel
theorem dX9_canBe_166 : decode cX9_canBe 166 = .ok (.ireturn, 1) := by decide +kernel
theorem dX9_canBe_167 : decode cX9_canBe 167 = .ok (.aload_n 0, 1) := by decide +kernel
theorem dX9_canBe_168 : decode cX9_canBe 168 = .ok (.getfield 16, 3) := by decide +kernel
theorem dX9_canBe_171 : decode cX9_canBe 171 = .ok (.iload_n 2, 1) := by decide +kernel
theorem dX9_canBe_172 : decode cX9_canBe 172 = .ok (.invokevirtual 117, 3) := by decide +kernel
theorem dX9_canBe_175 : decode cX9_canBe 175 = .ok (.ifCond .eq 19, 3) := by decide +kernel
theorem dX9_canBe_178 : decode cX9_canBe 178 = .ok (.aload_n 0, 1) := by decide +kernel
theorem dX9_canBe_179 : decode cX9_canBe 179 = .ok (.getfield 16, 3) := by decide +kernel
theorem dX9_canBe_182 : decode cX9_canBe 182 = .ok (.iload_n 2, 1) := by decide +kernel
theorem dX9_canBe_183 : decode cX9_canBe 183 = .ok (.invokevirtual 133, 3) := by decide +kernel
theorem dX9_canBe_186 : decode cX9_canBe 186 = .ok (.iload_n 3, 1) := by decide +kernel
theorem dX9_canBe_187 : decode cX9_canBe 187 = .ok (.if_icmp .ne 7, 3) := by decide +kernel
theorem dX9_canBe_190 : decode cX9_canBe 190 = .ok (.iconst 1, 1) := by decide +kernel
theorem dX9_canBe_191 : decode cX9_canBe 191 = .ok (.goto 4, 3) := by decide +kernel
theorem dX9_canBe_194 : decode cX9_canBe 194 = .ok (.iconst 0, 1) := by decide +kernel
theorem dX9_canBe_195 : decode cX9_canBe 195 = .ok (.ireturn, 1) := by decide +kernel
theorem dX9_canBe_196 : decode cX9_canBe 196 = .ok (.iconst 0, 1) := by decide +kernel
theorem dX9_canBe_197 : decode cX9_canBe 197 = .ok (.ireturn, 1) := by decide +kernel
theorem dX9_canBeMoved_0 : decode cX9_canBeMoved 0 = .ok (.aload_n 0, 1) := by decide +kernel
theorem dX9_canBeMoved_1 : decode cX9_canBeMoved 1 = .ok (.getfield 16, 3) := by decide +kernel
theorem dX9_canBeMoved_4 : decode cX9_canBeMoved 4 = .ok (.iload_n 1, 1) := by decide +kernel
theorem dX9_canBeMoved_5 : decode cX9_canBeMoved 5 = .ok (.iload_n 2, 1) := by decide +kernel
theorem dX9_canBeMoved_6 : decode cX9_canBeMoved 6 = .ok (.invokestatic 160, 3) := by decide +kernel
theorem dX9_canBeMoved_9 : decode cX9_canBeMoved 9 = .ok (.ifCond .eq 5, 3) := by decide +kernel
theorem dX9_canBeMoved_12 : decode cX9_canBeMoved 12 = .ok (.iconst 0, 1) := by decide +kernel
theorem dX9_canBeMoved_13 : decode cX9_canBeMoved 13 = .ok (.ireturn, 1) := by decide +kernel
theorem dX9_canBeMoved_14 : decode cX9_canBeMoved 14 = .ok (.aload_n 0, 1) := by decide +kernel
theorem dX9_canBeMoved_15 : decode cX9_canBeMoved 15 = .ok (.getfield 16, 3) := by decide +kernel
theorem dX9_canBeMoved_18 : decode cX9_canBeMoved 18 = .ok (.iload_n 1, 1) := by decide +kernel
theorem dX9_canBeMoved_19 : decode cX9_canBeMoved 19 = .ok (.iload_n 2, 1) := by decide +kernel
theorem dX9_canBeMoved_20 : decode cX9_canBeMoved 20 = .ok (.invokevirtual 167, 3) := by decide +kernel
theorem dX9_canBeMoved_23 : decode cX9_canBeMoved 23 = .ok (.iconst 1, 1) := by decide +kernel
theorem dX9_canBeMoved_24 : decode cX9_canBeMoved 24 = .ok (.ireturn, 1) := by decide +kernel
theorem dX9_canBeChanged_0 : decode cX9_canBeChanged 0 = .ok (.aload_n 0, 1) := by decide +kernel
theorem dX9_canBeChanged_1 : decode cX9_canBeChanged 1 = .ok (.getfield 16, 3) := by decide +kernel
theorem dX9_canBeChanged_4 : decode cX9_canBeChanged 4 = .ok (.iload_n 1, 1) := by decide +kernel
theorem dX9_canBeChanged_5 : decode cX9_canBeChanged 5 = .ok (.invokestatic 171, 3) := by decide +kernel
theorem dX9_canBeChanged_8 : decode cX9_canBeChanged 8 = .ok (.ifCond .eq 5, 3) := by decide +kernel
theorem dX9_canBeChanged_11 : decode cX9_canBeChanged 11 = .ok (.iconst 0, 1) := by decide +kernel
theorem dX9_canBeChanged_12 : decode cX9_canBeChanged 12 = .ok (.ireturn, 1) := by decide +kernel
theorem dX9_canBeChanged_13 : decode cX9_canBeChanged 13 = .ok (.aload_n 0, 1) := by decide +kernel
theorem dX9_canBeChanged_14 : decode cX9_canBeChanged 14 = .ok (.getfield 16, 3) := by decide +kernel
theorem dX9_canBeChanged_17 : decode cX9_canBeChanged 17 = .ok (.iload_n 1, 1) := by decide +kernel
theorem dX9_canBeChanged_18 : decode cX9_canBeChanged 18 = .ok (.invokevirtual 175, 3) := by decide +kernel
theorem dX9_canBeChanged_21 : decode cX9_canBeChanged 21 = .ok (.iconst 1, 1) := by decide +kernel
theorem dX9_canBeChanged_22 : decode cX9_canBeChanged 22 = .ok (.ireturn, 1) := by decide +kernel
theorem dX9_canBeDelayed_0 : decode cX9_canBeDelayed 0 = .ok (.aload_n 0, 1) := by decide +kernel
theorem dX9_canBeDelayed_1 : decode cX9_canBeDelayed 1 = .ok (.getfield 16, 3) := by decide +kernel
theorem dX9_canBeDelayed_4 : decode cX9_canBeDelayed 4 = .ok (.iload_n 1, 1) := by decide +kernel
theorem dX9_canBeDelayed_5 : decode cX9_canBeDelayed 5 = .ok (.iconst 0, 1) := by decide +kernel
theorem dX9_canBeDelayed_6 : decode cX9_canBeDelayed 6 = .ok (.iload_n 2, 1) := by decide +kernel
theorem dX9_canBeDelayed_7 : decode cX9_canBeDelayed 7 = .ok (.invokestatic 182, 3) := by decide +kernel
theorem dX9_canBeDelayed_10 : decode cX9_canBeDelayed 10 = .ok (.ifCond .eq 5, 3) := by decide +kernel
theorem dX9_canBeDelayed_13 : decode cX9_canBeDelayed 13 = .ok (.iconst 0, 1) := by decide +kernel
theorem dX9_canBeDelayed_14 : decode cX9_canBeDelayed 14 = .ok (.ireturn, 1) := by decide +kernel
theorem dX9_canBeDelayed_15 : decode cX9_canBeDelayed 15 = .ok (.aload_n 0, 1) := by decide +kernel
theorem dX9_canBeDelayed_16 : decode cX9_canBeDelayed 16 = .ok (.getfield 16, 3) := by decide +kernel
theorem dX9_canBeDelayed_19 : decode cX9_canBeDelayed 19 = .ok (.iload_n 1, 1) := by decide +kernel
theorem dX9_canBeDelayed_20 : decode cX9_canBeDelayed 20 = .ok (.iload_n 2, 1) := by decide +kernel
theorem dX9_canBeDelayed_21 : decode cX9_canBeDelayed 21 = .ok (.invokevirtual 224, 3) := by decide +kernel
theorem dX9_canBeDelayed_24 : decode cX9_canBeDelayed 24 = .ok (.iconst 1, 1) := by decide +kernel
theorem dX9_canBeDelayed_25 : decode cX9_canBeDelayed 25 = .ok (.ireturn, 1) := by decide +kernel
theorem dX9_peopleWhoseDelayMayCount_0 : decode cX9_peopleWhoseDelayMayCount 0 = .ok (.iconst 0, 1) := by decide +kernel
theorem dX9_peopleWhoseDelayMayCount_1 : decode cX9_peopleWhoseDelayMayCount 1 = .ok (.istore_n 1, 1) := by decide +kernel
theorem dX9_peopleWhoseDelayMayCount_2 : decode cX9_peopleWhoseDelayMayCount 2 = .ok (.iconst 0, 1) := by decide +kernel
theorem dX9_peopleWhoseDelayMayCount_3 : decode cX9_peopleWhoseDelayMayCount 3 = .ok (.istore_n 2, 1) := by decide +kernel
theorem dX9_peopleWhoseDelayMayCount_4 : decode cX9_peopleWhoseDelayMayCount 4 = .ok (.iload_n 2, 1) := by decide +kernel
theorem dX9_peopleWhoseDelayMayCount_5 : decode cX9_peopleWhoseDelayMayCount 5 = .ok (.aload_n 0, 1) := by decide +kernel
theorem dX9_peopleWhoseDelayMayCount_6 : decode cX9_peopleWhoseDelayMayCount 6 = .ok (.getfield 10, 3) := by decide +kernel
theorem dX9_peopleWhoseDelayMayCount_9 : decode cX9_peopleWhoseDelayMayCount 9 = .ok (.invokevirtual 98, 3) := by decide +kernel
theorem dX9_peopleWhoseDelayMayCount_12 : decode cX9_peopleWhoseDelayMayCount 12 = .ok (.if_icmp .ge 38, 3) := by decide +kernel
theorem dX9_peopleWhoseDelayMayCount_15 : decode cX9_peopleWhoseDelayMayCount 15 = .ok (.aload_n 0, 1) := by decide +kernel
theorem dX9_peopleWhoseDelayMayCount_16 : decode cX9_peopleWhoseDelayMayCount 16 = .ok (.getfield 10, 3) := by decide +kernel
theorem dX9_peopleWhoseDelayMayCount_19 : decode cX9_peopleWhoseDelayMayCount 19 = .ok (.iload_n 2, 1) := by decide +kernel
theorem dX9_peopleWhoseDelayMayCount_20 : decode cX9_peopleWhoseDelayMayCount 20 = .ok (.invokevirtual 120, 3) := by decide +kernel
theorem dX9_peopleWhoseDelayMayCount_23 : decode cX9_peopleWhoseDelayMayCount 23 = .ok (.iconst 1, 1) := by decide +kernel
theorem dX9_peopleWhoseDelayMayCount_24 : decode cX9_peopleWhoseDelayMayCount 24 = .ok (.if_icmp .le 20, 3) := by decide +kernel
theorem dX9_peopleWhoseDelayMayCount_27 : decode cX9_peopleWhoseDelayMayCount 27 = .ok (.aload_n 0, 1) := by decide +kernel
theorem dX9_peopleWhoseDelayMayCount_28 : decode cX9_peopleWhoseDelayMayCount 28 = .ok (.getfield 10, 3) := by decide +kernel
theorem dX9_peopleWhoseDelayMayCount_31 : decode cX9_peopleWhoseDelayMayCount 31 = .ok (.iload_n 2, 1) := by decide +kernel
theorem dX9_peopleWhoseDelayMayCount_32 : decode cX9_peopleWhoseDelayMayCount 32 = .ok (.invokevirtual 133, 3) := by decide +kernel
theorem dX9_peopleWhoseDelayMayCount_35 : decode cX9_peopleWhoseDelayMayCount 35 = .ok (.ifCond .le 9, 3) := by decide +kernel
theorem dX9_peopleWhoseDelayMayCount_38 : decode cX9_peopleWhoseDelayMayCount 38 = .ok (.iload_n 1, 1) := by decide +kernel
theorem dX9_peopleWhoseDelayMayCount_39 : decode cX9_peopleWhoseDelayMayCount 39 = .ok (.iconst 1, 1) := by decide +kernel
theorem dX9_peopleWhoseDelayMayCount_40 : decode cX9_peopleWhoseDelayMayCount 40 = .ok (.iload_n 2, 1) := by decide +kernel
theorem dX9_peopleWhoseDelayMayCount_41 : decode cX9_peopleWhoseDelayMayCount 41 = .ok (.ishl, 1) := by decide +kernel
theorem dX9_peopleWhoseDelayMayCount_42 : decode cX9_peopleWhoseDelayMayCount 42 = .ok (.ior, 1) := by decide +kernel
theorem dX9_peopleWhoseDelayMayCount_43 : decode cX9_peopleWhoseDelayMayCount 43 = .ok (.istore_n 1, 1) := by decide +kernel
theorem dX9_peopleWhoseDelayMayCount_44 : decode cX9_peopleWhoseDelayMayCount 44 = .ok (.iinc 2 1, 3) := by decide +kernel
theorem dX9_peopleWhoseDelayMayCount_47 : decode cX9_peopleWhoseDelayMayCount 47 = .ok (.goto (-43), 3) := by decide +kernel
theorem dX9_peopleWhoseDelayMayCount_50 : decode cX9_peopleWhoseDelayMayCount 50 = .ok (.iload_n 1, 1) := by decide +kernel
theorem dX9_peopleWhoseDelayMayCount_51 : decode cX9_peopleWhoseDelayMayCount 51 = .ok (.ireturn, 1) := by decide +kernel
theorem dX9_lastWhenCome_0 : decode cX9_lastWhenCome 0 = .ok (.iconst 0, 1) := by decide +kernel
theorem dX9_lastWhenCome_1 : decode cX9_lastWhenCome 1 = .ok (.istore_n 2, 1) := by decide +kernel
theorem dX9_lastWhenCome_2 : decode cX9_lastWhenCome 2 = .ok (.iload_n 2, 1) := by decide +kernel
theorem dX9_lastWhenCome_3 : decode cX9_lastWhenCome 3 = .ok (.aload_n 0, 1) := by decide +kernel
theorem dX9_lastWhenCome_4 : decode cX9_lastWhenCome 4 = .ok (.getfield 10, 3) := by decide +kernel
theorem dX9_lastWhenCome_7 : decode cX9_lastWhenCome 7 = .ok (.invokevirtual 98, 3) := by decide +kernel
theorem dX9_lastWhenCome_10 : decode cX9_lastWhenCome 10 = .ok (.if_icmp .ge 37, 3) := by decide +kernel
theorem dX9_lastWhenCome_13 : decode cX9_lastWhenCome 13 = .ok (.aload_n 0, 1) := by decide +kernel
theorem dX9_lastWhenCome_14 : decode cX9_lastWhenCome 14 = .ok (.getfield 16, 3) := by decide +kernel
theorem dX9_lastWhenCome_17 : decode cX9_lastWhenCome 17 = .ok (.iload_n 2, 1) := by decide +kernel
theorem dX9_lastWhenCome_18 : decode cX9_lastWhenCome 18 = .ok (.iload_n 1, 1) := by decide +kernel
theorem dX9_lastWhenCome_19 : decode cX9_lastWhenCome 19 = .ok (.iload_n 2, 1) := by decide +kernel
theorem dX9_lastWhenCome_20 : decode cX9_lastWhenCome 20 = .ok (.ishr, 1) := by decide +kernel
theorem dX9_lastWhenCome_21 : decode cX9_lastWhenCome 21 = .ok (.iconst 1, 1) := by decide +kernel
theorem dX9_lastWhenCome_22 : decode cX9_lastWhenCome 22 = .ok (.iand, 1) := by decide +kernel
theorem dX9_lastWhenCome_23 : decode cX9_lastWhenCome 23 = .ok (.ifCond .eq 14, 3) := by decide +kernel
theorem dX9_lastWhenCome_26 : decode cX9_lastWhenCome 26 = .ok (.aload_n 0, 1) := by decide +kernel
theorem dX9_lastWhenCome_27 : decode cX9_lastWhenCome 27 = .ok (.getfield 10, 3) := by decide +kernel
theorem dX9_lastWhenCome_30 : decode cX9_lastWhenCome 30 = .ok (.iload_n 2, 1) := by decide +kernel
theorem dX9_lastWhenCome_31 : decode cX9_lastWhenCome 31 = .ok (.invokevirtual 120, 3) := by decide +kernel
theorem dX9_lastWhenCome_34 : decode cX9_lastWhenCome 34 = .ok (.goto 4, 3) := by decide +kernel
theorem dX9_lastWhenCome_37 : decode cX9_lastWhenCome 37 = .ok (.iconst 1, 1) := by decide +kernel
theorem dX9_lastWhenCome_38 : decode cX9_lastWhenCome 38 = .ok (.invokevirtual 224, 3) := by decide +kernel
theorem dX9_lastWhenCome_41 : decode cX9_lastWhenCome 41 = .ok (.iinc 2 1, 3) := by decide +kernel
theorem dX9_lastWhenCome_44 : decode cX9_lastWhenCome 44 = .ok (.goto (-42), 3) := by decide +kernel
theorem dX9_lastWhenCome_47 : decode cX9_lastWhenCome 47 = .ok (.aload_n 0, 1) := by decide +kernel
theorem dX9_lastWhenCome_48 : decode cX9_lastWhenCome 48 = .ok (.getfield 22, 3) := by decide +kernel
theorem dX9_lastWhenCome_51 : decode cX9_lastWhenCome 51 = .ok (.aload_n 0, 1) := by decide +kernel
theorem dX9_lastWhenCome_52 : decode cX9_lastWhenCome 52 = .ok (.getfield 16, 3) := by decide +kernel
theorem dX9_lastWhenCome_55 : decode cX9_lastWhenCome 55 = .ok (.invokevirtual 94, 3) := by decide +kernel
theorem dX9_lastWhenCome_58 : decode cX9_lastWhenCome 58 = .ok (.ireturn, 1) := by decide +kernel
theorem dX9_chancesFrom_0 : decode cX9_chancesFrom 0 = .ok (.iload_n 1, 1) := by decide +kernel
theorem dX9_chancesFrom_1 : decode cX9_chancesFrom 1 = .ok (.bipush 8, 2) := by decide +kernel
theorem dX9_chancesFrom_3 : decode cX9_chancesFrom 3 = .ok (.if_icmp .ge 14, 3) := by decide +kernel
theorem dX9_chancesFrom_6 : decode cX9_chancesFrom 6 = .ok (.aload_n 0, 1) := by decide +kernel
theorem dX9_chancesFrom_7 : decode cX9_chancesFrom 7 = .ok (.getfield 10, 3) := by decide +kernel
theorem dX9_chancesFrom_10 : decode cX9_chancesFrom 10 = .ok (.iload_n 1, 1) := by decide +kernel
theorem dX9_chancesFrom_11 : decode cX9_chancesFrom 11 = .ok (.invokevirtual 142, 3) := by decide +kernel
theorem dX9_chancesFrom_14 : decode cX9_chancesFrom 14 = .ok (.ifCond .ne 17, 3) := by decide +kernel
theorem dX9_chancesFrom_17 : decode cX9_chancesFrom 17 = .ok (.iload_n 2, 1) := by decide +kernel
theorem dX9_chancesFrom_18 : decode cX9_chancesFrom 18 = .ok (.invokestatic 238, 3) := by decide +kernel
theorem dX9_chancesFrom_21 : decode cX9_chancesFrom 21 = .ok (.iload_n 3, 1) := by decide +kernel
theorem dX9_chancesFrom_22 : decode cX9_chancesFrom 22 = .ok (.if_icmp .lt 7, 3) := by decide +kernel
theorem dX9_chancesFrom_25 : decode cX9_chancesFrom 25 = .ok (.lconst 1, 1) := by decide +kernel
theorem dX9_chancesFrom_26 : decode cX9_chancesFrom 26 = .ok (.goto 4, 3) := by decide +kernel
theorem dX9_chancesFrom_29 : decode cX9_chancesFrom 29 = .ok (.lconst 0, 1) := by decide +kernel
theorem dX9_chancesFrom_30 : decode cX9_chancesFrom 30 = .ok (.lreturn, 1) := by decide +kernel
theorem dX9_chancesFrom_31 : decode cX9_chancesFrom 31 = .ok (.aload_n 0, 1) := by decide +kernel
theorem dX9_chancesFrom_32 : decode cX9_chancesFrom 32 = .ok (.getfield 10, 3) := by decide +kernel
theorem dX9_chancesFrom_35 : decode cX9_chancesFrom 35 = .ok (.iload_n 1, 1) := by decide +kernel
theorem dX9_chancesFrom_36 : decode cX9_chancesFrom 36 = .ok (.invokevirtual 145, 3) := by decide +kernel
theorem dX9_chancesFrom_39 : decode cX9_chancesFrom 39 = .ok (.istore 5, 2) := by decide +kernel
theorem dX9_chancesFrom_41 : decode cX9_chancesFrom 41 = .ok (.aload_n 0, 1) := by decide +kernel
theorem dX9_chancesFrom_42 : decode cX9_chancesFrom 42 = .ok (.iload_n 1, 1) := by decide +kernel
theorem dX9_chancesFrom_43 : decode cX9_chancesFrom 43 = .ok (.iconst 1, 1) := by decide +kernel
theorem dX9_chancesFrom_44 : decode cX9_chancesFrom 44 = .ok (.iadd, 1) := by decide +kernel
theorem dX9_chancesFrom_45 : decode cX9_chancesFrom 45 = .ok (.iload_n 2, 1) := by decide +kernel
theorem dX9_chancesFrom_46 : decode cX9_chancesFrom 46 = .ok (.iload_n 3, 1) := by decide +kernel
theorem dX9_chancesFrom_47 : decode cX9_chancesFrom 47 = .ok (.iload 4, 2) := by decide +kernel
theorem dX9_chancesFrom_49 : decode cX9_chancesFrom 49 = .ok (.invokevirtual 251, 3) := by decide +kernel
theorem dX9_chancesFrom_52 : decode cX9_chancesFrom 52 = .ok (.lstore 6, 2) := by decide +kernel
theorem dX9_chancesFrom_54 : decode cX9_chancesFrom 54 = .ok (.iload_n 2, 1) := by decide +kernel
theorem dX9_chancesFrom_55 : decode cX9_chancesFrom 55 = .ok (.aload_n 0, 1) := by decide +kernel
theorem dX9_chancesFrom_56 : decode cX9_chancesFrom 56 = .ok (.getfield 10, 3) := by decide +kernel
theorem dX9_chancesFrom_59 : decode cX9_chancesFrom 59 = .ok (.iload 5, 2) := by decide +kernel
theorem dX9_chancesFrom_61 : decode cX9_chancesFrom 61 = .ok (.invokevirtual 127, 3) := by decide +kernel
theorem dX9_chancesFrom_64 : decode cX9_chancesFrom 64 = .ok (.ishr, 1) := by decide +kernel
theorem dX9_chancesFrom_65 : decode cX9_chancesFrom 65 = .ok (.iconst 1, 1) := by decide +kernel
theorem dX9_chancesFrom_66 : decode cX9_chancesFrom 66 = .ok (.iand, 1) := by decide +kernel
theorem dX9_chancesFrom_67 : decode cX9_chancesFrom 67 = .ok (.ifCond .ne 10, 3) := by decide +kernel
theorem dX9_chancesFrom_70 : decode cX9_chancesFrom 70 = .ok (.ldc2_w 249, 3) := by decide +kernel
theorem dX9_chancesFrom_73 : decode cX9_chancesFrom 73 = .ok (.lload 6, 2) := by decide +kernel
theorem dX9_chancesFrom_75 : decode cX9_chancesFrom 75 = .ok (.lmul, 1) := by decide +kernel
theorem dX9_chancesFrom_76 : decode cX9_chancesFrom 76 = .ok (.lreturn, 1) := by decide +kernel
theorem dX9_chancesFrom_77 : decode cX9_chancesFrom 77 = .ok (.aload_n 0, 1) := by decide +kernel
theorem dX9_chancesFrom_78 : decode cX9_chancesFrom 78 = .ok (.iload_n 1, 1) := by decide +kernel
theorem dX9_chancesFrom_79 : decode cX9_chancesFrom 79 = .ok (.iconst 1, 1) := by decide +kernel
theorem dX9_chancesFrom_80 : decode cX9_chancesFrom 80 = .ok (.iadd, 1) := by decide +kernel
theorem dX9_chancesFrom_81 : decode cX9_chancesFrom 81 = .ok (.iload_n 2, 1) := by decide +kernel
theorem dX9_chancesFrom_82 : decode cX9_chancesFrom 82 = .ok (.iconst 1, 1) := by decide +kernel
theorem dX9_chancesFrom_83 : decode cX9_chancesFrom 83 = .ok (.iload 5, 2) := by decide +kernel
theorem dX9_chancesFrom_85 : decode cX9_chancesFrom 85 = .ok (.ishl, 1) := by decide +kernel
theorem dX9_chancesFrom_86 : decode cX9_chancesFrom 86 = .ok (.ior, 1) := by decide +kernel
theorem dX9_chancesFrom_87 : decode cX9_chancesFrom 87 = .ok (.iload_n 3, 1) := by decide +kernel
theorem dX9_chancesFrom_88 : decode cX9_chancesFrom 88 = .ok (.iload 4, 2) := by decide +kernel
theorem dX9_chancesFrom_90 : decode cX9_chancesFrom 90 = .ok (.invokevirtual 251, 3) := by decide +kernel
theorem dX9_chancesFrom_93 : decode cX9_chancesFrom 93 = .ok (.lstore 8, 2) := by decide +kernel
theorem dX9_chancesFrom_95 : decode cX9_chancesFrom 95 = .ok (.iload 4, 2) := by decide +kernel
theorem dX9_chancesFrom_97 : decode cX9_chancesFrom 97 = .ok (.i2l, 1) := by decide +kernel
theorem dX9_chancesFrom_98 : decode cX9_chancesFrom 98 = .ok (.lload 6, 2) := by decide +kernel
theorem dX9_chancesFrom_100 : decode cX9_chancesFrom 100 = .ok (.lmul, 1) := by decide +kernel
theorem dX9_chancesFrom_101 : decode cX9_chancesFrom 101 = .ok (.bipush 10, 2) := by decide +kernel
theorem dX9_chancesFrom_103 : decode cX9_chancesFrom 103 = .ok (.iload 4, 2) := by decide +kernel
theorem dX9_chancesFrom_105 : decode cX9_chancesFrom 105 = .ok (.isub, 1) := by decide +kernel
theorem dX9_chancesFrom_106 : decode cX9_chancesFrom 106 = .ok (.i2l, 1) := by decide +kernel
theorem dX9_chancesFrom_107 : decode cX9_chancesFrom 107 = .ok (.lload 8, 2) := by decide +kernel
theorem dX9_chancesFrom_109 : decode cX9_chancesFrom 109 = .ok (.lmul, 1) := by decide +kernel
theorem dX9_chancesFrom_110 : decode cX9_chancesFrom 110 = .ok (.ladd, 1) := by decide +kernel
theorem dX9_chancesFrom_111 : decode cX9_chancesFrom 111 = .ok (.lreturn, 1) := by decide +kernel
theorem dX9_drawDelays_0 : decode cX9_drawDelays 0 = .ok (.iload_n 1, 1) := by decide +kernel
theorem dX9_drawDelays_1 : decode cX9_drawDelays 1 = .ok (.istore_n 2, 1) := by decide +kernel
theorem dX9_drawDelays_2 : decode cX9_drawDelays 2 = .ok (.iconst 0, 1) := by decide +kernel
theorem dX9_drawDelays_3 : decode cX9_drawDelays 3 = .ok (.istore_n 3, 1) := by decide +kernel
theorem dX9_drawDelays_4 : decode cX9_drawDelays 4 = .ok (.iload_n 3, 1) := by decide +kernel
theorem dX9_drawDelays_5 : decode cX9_drawDelays 5 = .ok (.aload_n 0, 1) := by decide +kernel
theorem dX9_drawDelays_6 : decode cX9_drawDelays 6 = .ok (.getfield 16, 3) := by decide +kernel
theorem dX9_drawDelays_9 : decode cX9_drawDelays 9 = .ok (.invokevirtual 98, 3) := by decide +kernel
theorem dX9_drawDelays_12 : decode cX9_drawDelays 12 = .ok (.if_icmp .ge 28, 3) := by decide +kernel
theorem dX9_drawDelays_15 : decode cX9_drawDelays 15 = .ok (.aload_n 0, 1) := by decide +kernel
theorem dX9_drawDelays_16 : decode cX9_drawDelays 16 = .ok (.getfield 16, 3) := by decide +kernel
theorem dX9_drawDelays_19 : decode cX9_drawDelays 19 = .ok (.iload_n 3, 1) := by decide +kernel
theorem dX9_drawDelays_20 : decode cX9_drawDelays 20 = .ok (.iconst 1, 1) := by decide +kernel
theorem dX9_drawDelays_21 : decode cX9_drawDelays 21 = .ok (.iload_n 2, 1) := by decide +kernel
theorem dX9_drawDelays_22 : decode cX9_drawDelays 22 = .ok (.bipush 9, 2) := by decide +kernel
theorem dX9_drawDelays_24 : decode cX9_drawDelays 24 = .ok (.irem, 1) := by decide +kernel
theorem dX9_drawDelays_25 : decode cX9_drawDelays 25 = .ok (.iadd, 1) := by decide +kernel
theorem dX9_drawDelays_26 : decode cX9_drawDelays 26 = .ok (.invokevirtual 224, 3) := by decide +kernel
theorem dX9_drawDelays_29 : decode cX9_drawDelays 29 = .ok (.iload_n 2, 1) := by decide +kernel
theorem dX9_drawDelays_30 : decode cX9_drawDelays 30 = .ok (.bipush 9, 2) := by decide +kernel
theorem dX9_drawDelays_32 : decode cX9_drawDelays 32 = .ok (.idiv, 1) := by decide +kernel
theorem dX9_drawDelays_33 : decode cX9_drawDelays 33 = .ok (.istore_n 2, 1) := by decide +kernel
theorem dX9_drawDelays_34 : decode cX9_drawDelays 34 = .ok (.iinc 3 1, 3) := by decide +kernel
theorem dX9_drawDelays_37 : decode cX9_drawDelays 37 = .ok (.goto (-33), 3) := by decide +kernel
theorem dX9_drawDelays_40 : decode cX9_drawDelays 40 = .ok (.return_, 1) := by decide +kernel
theorem dX9_factorial_0 : decode cX9_factorial 0 = .ok (.iload_n 0, 1) := by decide +kernel
theorem dX9_factorial_1 : decode cX9_factorial 1 = .ok (.ifCond .lt 19, 3) := by decide +kernel
theorem dX9_factorial_4 : decode cX9_factorial 4 = .ok (.iload_n 0, 1) := by decide +kernel
theorem dX9_factorial_5 : decode cX9_factorial 5 = .ok (.getstatic 292, 3) := by decide +kernel
theorem dX9_factorial_8 : decode cX9_factorial 8 = .ok (.arraylength, 1) := by decide +kernel
theorem dX9_factorial_9 : decode cX9_factorial 9 = .ok (.if_icmp .ge 11, 3) := by decide +kernel
theorem dX9_factorial_12 : decode cX9_factorial 12 = .ok (.getstatic 292, 3) := by decide +kernel
theorem dX9_factorial_15 : decode cX9_factorial 15 = .ok (.iload_n 0, 1) := by decide +kernel
theorem dX9_factorial_16 : decode cX9_factorial 16 = .ok (.laload, 1) := by decide +kernel
theorem dX9_factorial_17 : decode cX9_factorial 17 = .ok (.goto 4, 3) := by decide +kernel
theorem dX9_factorial_20 : decode cX9_factorial 20 = .ok (.lconst 0, 1) := by decide +kernel
theorem dX9_factorial_21 : decode cX9_factorial 21 = .ok (.lreturn, 1) := by decide +kernel
theorem dX9_partOfFraction_0 : decode cX9_partOfFraction 0 = .ok (.lload_n 0, 1) := by decide +kernel
theorem dX9_partOfFraction_1 : decode cX9_partOfFraction 1 = .ok (.invokestatic 296, 3) := by decide +kernel
theorem dX9_partOfFraction_4 : decode cX9_partOfFraction 4 = .ok (.lload_n 2, 1) := by decide +kernel
theorem dX9_partOfFraction_5 : decode cX9_partOfFraction 5 = .ok (.invokestatic 300, 3) := by decide +kernel
theorem dX9_partOfFraction_8 : decode cX9_partOfFraction 8 = .ok (.lstore 5, 2) := by decide +kernel
theorem dX9_partOfFraction_10 : decode cX9_partOfFraction 10 = .ok (.lload 5, 2) := by decide +kernel
theorem dX9_partOfFraction_12 : decode cX9_partOfFraction 12 = .ok (.lconst 0, 1) := by decide +kernel
theorem dX9_partOfFraction_13 : decode cX9_partOfFraction 13 = .ok (.lcmp, 1) := by decide +kernel
theorem dX9_partOfFraction_14 : decode cX9_partOfFraction 14 = .ok (.ifCond .ne 5, 3) := by decide +kernel
theorem dX9_partOfFraction_17 : decode cX9_partOfFraction 17 = .ok (.iconst 0, 1) := by decide +kernel
theorem dX9_partOfFraction_18 : decode cX9_partOfFraction 18 = .ok (.ireturn, 1) := by decide +kernel
theorem dX9_partOfFraction_19 : decode cX9_partOfFraction 19 = .ok (.iload 4, 2) := by decide +kernel
theorem dX9_partOfFraction_21 : decode cX9_partOfFraction 21 = .ok (.ifCond .eq 7, 3) := by decide +kernel
theorem dX9_partOfFraction_24 : decode cX9_partOfFraction 24 = .ok (.lload_n 0, 1) := by decide +kernel
theorem dX9_partOfFraction_25 : decode cX9_partOfFraction 25 = .ok (.goto 4, 3) := by decide +kernel
theorem dX9_partOfFraction_28 : decode cX9_partOfFraction 28 = .ok (.lload_n 2, 1) := by decide +kernel
theorem dX9_partOfFraction_29 : decode cX9_partOfFraction 29 = .ok (.lload 5, 2) := by decide +kernel
theorem dX9_partOfFraction_31 : decode cX9_partOfFraction 31 = .ok (.ldiv, 1) := by decide +kernel
theorem dX9_partOfFraction_32 : decode cX9_partOfFraction 32 = .ok (.l2i, 1) := by decide +kernel
theorem dX9_partOfFraction_33 : decode cX9_partOfFraction 33 = .ok (.ireturn, 1) := by decide +kernel
theorem dX9_commonDivisor_0 : decode cX9_commonDivisor 0 = .ok (.lload_n 0, 1) := by decide +kernel
theorem dX9_commonDivisor_1 : decode cX9_commonDivisor 1 = .ok (.lstore 4, 2) := by decide +kernel
theorem dX9_commonDivisor_3 : decode cX9_commonDivisor 3 = .ok (.lload_n 2, 1) := by decide +kernel
theorem dX9_commonDivisor_4 : decode cX9_commonDivisor 4 = .ok (.lstore 6, 2) := by decide +kernel
theorem dX9_commonDivisor_6 : decode cX9_commonDivisor 6 = .ok (.iconst 0, 1) := by decide +kernel
theorem dX9_commonDivisor_7 : decode cX9_commonDivisor 7 = .ok (.istore 8, 2) := by decide +kernel
theorem dX9_commonDivisor_9 : decode cX9_commonDivisor 9 = .ok (.iload 8, 2) := by decide +kernel
theorem dX9_commonDivisor_11 : decode cX9_commonDivisor 11 = .ok (.sipush 128, 3) := by decide +kernel
theorem dX9_commonDivisor_14 : decode cX9_commonDivisor 14 = .ok (.if_icmp .ge 31, 3) := by decide +kernel
theorem dX9_commonDivisor_17 : decode cX9_commonDivisor 17 = .ok (.lload 6, 2) := by decide +kernel
theorem dX9_commonDivisor_19 : decode cX9_commonDivisor 19 = .ok (.lconst 0, 1) := by decide +kernel
theorem dX9_commonDivisor_20 : decode cX9_commonDivisor 20 = .ok (.lcmp, 1) := by decide +kernel
theorem dX9_commonDivisor_21 : decode cX9_commonDivisor 21 = .ok (.ifCond .eq 24, 3) := by decide +kernel
theorem dX9_commonDivisor_24 : decode cX9_commonDivisor 24 = .ok (.lload 4, 2) := by decide +kernel
theorem dX9_commonDivisor_26 : decode cX9_commonDivisor 26 = .ok (.lload 6, 2) := by decide +kernel
theorem dX9_commonDivisor_28 : decode cX9_commonDivisor 28 = .ok (.lrem, 1) := by decide +kernel
theorem dX9_commonDivisor_29 : decode cX9_commonDivisor 29 = .ok (.lstore 9, 2) := by decide +kernel
theorem dX9_commonDivisor_31 : decode cX9_commonDivisor 31 = .ok (.lload 6, 2) := by decide +kernel
theorem dX9_commonDivisor_33 : decode cX9_commonDivisor 33 = .ok (.lstore 4, 2) := by decide +kernel
theorem dX9_commonDivisor_35 : decode cX9_commonDivisor 35 = .ok (.lload 9, 2) := by decide +kernel
theorem dX9_commonDivisor_37 : decode cX9_commonDivisor 37 = .ok (.lstore 6, 2) := by decide +kernel
theorem dX9_commonDivisor_39 : decode cX9_commonDivisor 39 = .ok (.iinc 8 1, 3) := by decide +kernel
theorem dX9_commonDivisor_42 : decode cX9_commonDivisor 42 = .ok (.goto (-33), 3) := by decide +kernel
theorem dX9_commonDivisor_45 : decode cX9_commonDivisor 45 = .ok (.lload 4, 2) := by decide +kernel
theorem dX9_commonDivisor_47 : decode cX9_commonDivisor 47 = .ok (.lreturn, 1) := by decide +kernel
theorem dX9_at_0 : decode cX9_at 0 = .ok (.iload_n 1, 1) := by decide +kernel
theorem dX9_at_1 : decode cX9_at 1 = .ok (.ifCond .lt 15, 3) := by decide +kernel
theorem dX9_at_4 : decode cX9_at 4 = .ok (.iload_n 1, 1) := by decide +kernel
theorem dX9_at_5 : decode cX9_at 5 = .ok (.aload_n 0, 1) := by decide +kernel
theorem dX9_at_6 : decode cX9_at 6 = .ok (.arraylength, 1) := by decide +kernel
theorem dX9_at_7 : decode cX9_at 7 = .ok (.if_icmp .ge 9, 3) := by decide +kernel
theorem dX9_at_10 : decode cX9_at 10 = .ok (.aload_n 0, 1) := by decide +kernel
theorem dX9_at_11 : decode cX9_at 11 = .ok (.iload_n 1, 1) := by decide +kernel
theorem dX9_at_12 : decode cX9_at 12 = .ok (.iaload, 1) := by decide +kernel
theorem dX9_at_13 : decode cX9_at 13 = .ok (.goto 4, 3) := by decide +kernel
theorem dX9_at_16 : decode cX9_at 16 = .ok (.iconst 0, 1) := by decide +kernel
theorem dX9_at_17 : decode cX9_at 17 = .ok (.ireturn, 1) := by decide +kernel
theorem dX9_put_0 : decode cX9_put 0 = .ok (.iload_n 1, 1) := by decide +kernel
theorem dX9_put_1 : decode cX9_put 1 = .ok (.ifCond .lt 13, 3) := by decide +kernel
theorem dX9_put_4 : decode cX9_put 4 = .ok (.iload_n 1, 1) := by decide +kernel
theorem dX9_put_5 : decode cX9_put 5 = .ok (.aload_n 0, 1) := by decide +kernel
theorem dX9_put_6 : decode cX9_put 6 = .ok (.arraylength, 1) := by decide +kernel
theorem dX9_put_7 : decode cX9_put 7 = .ok (.if_icmp .ge 7, 3) := by decide +kernel
theorem dX9_put_10 : decode cX9_put 10 = .ok (.aload_n 0, 1) := by decide +kernel
theorem dX9_put_11 : decode cX9_put 11 = .ok (.iload_n 1, 1) := by decide +kernel
theorem dX9_put_12 : decode cX9_put 12 = .ok (.iload_n 2, 1) := by decide +kernel
theorem dX9_put_13 : decode cX9_put 13 = .ok (.iastore, 1) := by decide +kernel
theorem dX9_put_14 : decode cX9_put 14 = .ok (.return_, 1) := by decide +kernel
theorem dJ6_bitCount_0f7a4_0 : decode cJ6_bitCount_0f7a4 0 = .ok (.iload_n 0, 1) := by decide +kernel
theorem dJ6_bitCount_0f7a4_1 : decode cJ6_bitCount_0f7a4 1 = .ok (.iload_n 0, 1) := by decide +kernel
theorem dJ6_bitCount_0f7a4_2 : decode cJ6_bitCount_0f7a4 2 = .ok (.iconst 1, 1) := by decide +kernel
theorem dJ6_bitCount_0f7a4_3 : decode cJ6_bitCount_0f7a4 3 = .ok (.iushr, 1) := by decide +kernel
theorem dJ6_bitCount_0f7a4_4 : decode cJ6_bitCount_0f7a4 4 = .ok (.ldc_w 265, 3) := by decide +kernel
theorem dJ6_bitCount_0f7a4_7 : decode cJ6_bitCount_0f7a4 7 = .ok (.iand, 1) := by decide +kernel
theorem dJ6_bitCount_0f7a4_8 : decode cJ6_bitCount_0f7a4 8 = .ok (.isub, 1) := by decide +kernel
theorem dJ6_bitCount_0f7a4_9 : decode cJ6_bitCount_0f7a4 9 = .ok (.istore_n 0, 1) := by decide +kernel
theorem dJ6_bitCount_0f7a4_10 : decode cJ6_bitCount_0f7a4 10 = .ok (.iload_n 0, 1) := by decide +kernel
theorem dJ6_bitCount_0f7a4_11 : decode cJ6_bitCount_0f7a4 11 = .ok (.ldc_w 266, 3) := by decide +kernel
theorem dJ6_bitCount_0f7a4_14 : decode cJ6_bitCount_0f7a4 14 = .ok (.iand, 1) := by decide +kernel
theorem dJ6_bitCount_0f7a4_15 : decode cJ6_bitCount_0f7a4 15 = .ok (.iload_n 0, 1) := by decide +kernel
theorem dJ6_bitCount_0f7a4_16 : decode cJ6_bitCount_0f7a4 16 = .ok (.iconst 2, 1) := by decide +kernel
theorem dJ6_bitCount_0f7a4_17 : decode cJ6_bitCount_0f7a4 17 = .ok (.iushr, 1) := by decide +kernel
theorem dJ6_bitCount_0f7a4_18 : decode cJ6_bitCount_0f7a4 18 = .ok (.ldc_w 266, 3) := by decide +kernel
theorem dJ6_bitCount_0f7a4_21 : decode cJ6_bitCount_0f7a4 21 = .ok (.iand, 1) := by decide +kernel
theorem dJ6_bitCount_0f7a4_22 : decode cJ6_bitCount_0f7a4 22 = .ok (.iadd, 1) := by decide +kernel
theorem dJ6_bitCount_0f7a4_23 : decode cJ6_bitCount_0f7a4 23 = .ok (.istore_n 0, 1) := by decide +kernel
theorem dJ6_bitCount_0f7a4_24 : decode cJ6_bitCount_0f7a4 24 = .ok (.iload_n 0, 1) := by decide +kernel
theorem dJ6_bitCount_0f7a4_25 : decode cJ6_bitCount_0f7a4 25 = .ok (.iload_n 0, 1) := by decide +kernel
theorem dJ6_bitCount_0f7a4_26 : decode cJ6_bitCount_0f7a4 26 = .ok (.iconst 4, 1) := by decide +kernel
theorem dJ6_bitCount_0f7a4_27 : decode cJ6_bitCount_0f7a4 27 = .ok (.iushr, 1) := by decide +kernel
theorem dJ6_bitCount_0f7a4_28 : decode cJ6_bitCount_0f7a4 28 = .ok (.iadd, 1) := by decide +kernel
theorem dJ6_bitCount_0f7a4_29 : decode cJ6_bitCount_0f7a4 29 = .ok (.ldc_w 267, 3) := by decide +kernel
theorem dJ6_bitCount_0f7a4_32 : decode cJ6_bitCount_0f7a4 32 = .ok (.iand, 1) := by decide +kernel
theorem dJ6_bitCount_0f7a4_33 : decode cJ6_bitCount_0f7a4 33 = .ok (.istore_n 0, 1) := by decide +kernel
theorem dJ6_bitCount_0f7a4_34 : decode cJ6_bitCount_0f7a4 34 = .ok (.iload_n 0, 1) := by decide +kernel
theorem dJ6_bitCount_0f7a4_35 : decode cJ6_bitCount_0f7a4 35 = .ok (.iload_n 0, 1) := by decide +kernel
theorem dJ6_bitCount_0f7a4_36 : decode cJ6_bitCount_0f7a4 36 = .ok (.bipush 8, 2) := by decide +kernel
theorem dJ6_bitCount_0f7a4_38 : decode cJ6_bitCount_0f7a4 38 = .ok (.iushr, 1) := by decide +kernel
theorem dJ6_bitCount_0f7a4_39 : decode cJ6_bitCount_0f7a4 39 = .ok (.iadd, 1) := by decide +kernel
theorem dJ6_bitCount_0f7a4_40 : decode cJ6_bitCount_0f7a4 40 = .ok (.istore_n 0, 1) := by decide +kernel
theorem dJ6_bitCount_0f7a4_41 : decode cJ6_bitCount_0f7a4 41 = .ok (.iload_n 0, 1) := by decide +kernel
theorem dJ6_bitCount_0f7a4_42 : decode cJ6_bitCount_0f7a4 42 = .ok (.iload_n 0, 1) := by decide +kernel
theorem dJ6_bitCount_0f7a4_43 : decode cJ6_bitCount_0f7a4 43 = .ok (.bipush 16, 2) := by decide +kernel
theorem dJ6_bitCount_0f7a4_45 : decode cJ6_bitCount_0f7a4 45 = .ok (.iushr, 1) := by decide +kernel
theorem dJ6_bitCount_0f7a4_46 : decode cJ6_bitCount_0f7a4 46 = .ok (.iadd, 1) := by decide +kernel
theorem dJ6_bitCount_0f7a4_47 : decode cJ6_bitCount_0f7a4 47 = .ok (.istore_n 0, 1) := by decide +kernel
theorem dJ6_bitCount_0f7a4_48 : decode cJ6_bitCount_0f7a4 48 = .ok (.iload_n 0, 1) := by decide +kernel
theorem dJ6_bitCount_0f7a4_49 : decode cJ6_bitCount_0f7a4 49 = .ok (.bipush 63, 2) := by decide +kernel
theorem dJ6_bitCount_0f7a4_51 : decode cJ6_bitCount_0f7a4 51 = .ok (.iand, 1) := by decide +kernel
theorem dJ6_bitCount_0f7a4_52 : decode cJ6_bitCount_0f7a4 52 = .ok (.ireturn, 1) := by decide +kernel
theorem dJ9_abs_067f4_0 : decode cJ9_abs_067f4 0 = .ok (.lload_n 0, 1) := by decide +kernel
theorem dJ9_abs_067f4_1 : decode cJ9_abs_067f4 1 = .ok (.lconst 0, 1) := by decide +kernel
theorem dJ9_abs_067f4_2 : decode cJ9_abs_067f4 2 = .ok (.lcmp, 1) := by decide +kernel
theorem dJ9_abs_067f4_3 : decode cJ9_abs_067f4 3 = .ok (.ifCond .ge 8, 3) := by decide +kernel
theorem dJ9_abs_067f4_6 : decode cJ9_abs_067f4 6 = .ok (.lload_n 0, 1) := by decide +kernel
theorem dJ9_abs_067f4_7 : decode cJ9_abs_067f4 7 = .ok (.lneg, 1) := by decide +kernel
theorem dJ9_abs_067f4_8 : decode cJ9_abs_067f4 8 = .ok (.goto 4, 3) := by decide +kernel
theorem dJ9_abs_067f4_11 : decode cJ9_abs_067f4 11 = .ok (.lload_n 0, 1) := by decide +kernel
theorem dJ9_abs_067f4_12 : decode cJ9_abs_067f4 12 = .ok (.lreturn, 1) := by decide +kernel
theorem dJ9_max_7cf53_0 : decode cJ9_max_7cf53 0 = .ok (.iload_n 0, 1) := by decide +kernel
theorem dJ9_max_7cf53_1 : decode cJ9_max_7cf53 1 = .ok (.iload_n 1, 1) := by decide +kernel
theorem dJ9_max_7cf53_2 : decode cJ9_max_7cf53 2 = .ok (.if_icmp .lt 7, 3) := by decide +kernel
theorem dJ9_max_7cf53_5 : decode cJ9_max_7cf53 5 = .ok (.iload_n 0, 1) := by decide +kernel
theorem dJ9_max_7cf53_6 : decode cJ9_max_7cf53 6 = .ok (.goto 4, 3) := by decide +kernel
theorem dJ9_max_7cf53_9 : decode cJ9_max_7cf53 9 = .ok (.iload_n 1, 1) := by decide +kernel
theorem dJ9_max_7cf53_10 : decode cJ9_max_7cf53 10 = .ok (.ireturn, 1) := by decide +kernel
theorem dJ9_min_7cf53_0 : decode cJ9_min_7cf53 0 = .ok (.iload_n 0, 1) := by decide +kernel
theorem dJ9_min_7cf53_1 : decode cJ9_min_7cf53 1 = .ok (.iload_n 1, 1) := by decide +kernel
theorem dJ9_min_7cf53_2 : decode cJ9_min_7cf53 2 = .ok (.if_icmp .gt 7, 3) := by decide +kernel
theorem dJ9_min_7cf53_5 : decode cJ9_min_7cf53 5 = .ok (.iload_n 0, 1) := by decide +kernel
theorem dJ9_min_7cf53_6 : decode cJ9_min_7cf53 6 = .ok (.goto 4, 3) := by decide +kernel
theorem dJ9_min_7cf53_9 : decode cJ9_min_7cf53 9 = .ok (.iload_n 1, 1) := by decide +kernel
theorem dJ9_min_7cf53_10 : decode cJ9_min_7cf53 10 = .ok (.ireturn, 1) := by decide +kernel
