theorem dX3_isMutual_7 : decode cX3_isMutual 7 = .ok (.iload_n 2, 1) := by decide +kernel
theorem dX3_isMutual_8 : decode cX3_isMutual 8 = .ok (.ishl, 1) := by decide +kernel
theorem dX3_isMutual_9 : decode cX3_isMutual 9 = .ok (.iand, 1) := by decide +kernel
theorem dX3_isMutual_10 : decode cX3_isMutual 10 = .ok (.ifCond .eq 7, 3) := by decide +kernel
theorem dX3_isMutual_13 : decode cX3_isMutual 13 = .ok (.iconst 1, 1) := by decide +kernel
theorem dX3_isMutual_14 : decode cX3_isMutual 14 = .ok (.goto 4, 3) := by decide +kernel
theorem dX3_isMutual_17 : decode cX3_isMutual 17 = .ok (.iconst 0, 1) := by decide +kernel
theorem dX3_isMutual_18 : decode cX3_isMutual 18 = .ok (.ireturn, 1) := by decide +kernel
theorem dX3_wants_0 : decode cX3_wants 0 = .ok (.aload_n 0, 1) := by decide +kernel
theorem dX3_wants_1 : decode cX3_wants 1 = .ok (.getfield 21, 3) := by decide +kernel
theorem dX3_wants_4 : decode cX3_wants 4 = .ok (.iload_n 1, 1) := by decide +kernel
theorem dX3_wants_5 : decode cX3_wants 5 = .ok (.iaload, 1) := by decide +kernel
theorem dX3_wants_6 : decode cX3_wants 6 = .ok (.iconst (-1), 1) := by decide +kernel
theorem dX3_wants_7 : decode cX3_wants 7 = .ok (.if_icmp .eq 23, 3) := by decide +kernel
theorem dX3_wants_10 : decode cX3_wants 10 = .ok (.aload_n 0, 1) := by decide +kernel
theorem dX3_wants_11 : decode cX3_wants 11 = .ok (.getfield 15, 3) := by decide +kernel
theorem dX3_wants_14 : decode cX3_wants 14 = .ok (.iload_n 2, 1) := by decide +kernel
theorem dX3_wants_15 : decode cX3_wants 15 = .ok (.iaload, 1) := by decide +kernel
theorem dX3_wants_16 : decode cX3_wants 16 = .ok (.aload_n 0, 1) := by decide +kernel
theorem dX3_wants_17 : decode cX3_wants 17 = .ok (.getfield 15, 3) := by decide +kernel
theorem dX3_wants_20 : decode cX3_wants 20 = .ok (.aload_n 0, 1) := by decide +kernel
theorem dX3_wants_21 : decode cX3_wants 21 = .ok (.getfield 21, 3) := by decide +kernel
theorem dX3_wants_24 : decode cX3_wants 24 = .ok (.iload_n 1, 1) := by decide +kernel
theorem dX3_wants_25 : decode cX3_wants 25 = .ok (.iaload, 1) := by decide +kernel
theorem dX3_wants_26 : decode cX3_wants 26 = .ok (.iaload, 1) := by decide +kernel
theorem dX3_wants_27 : decode cX3_wants 27 = .ok (.if_icmp .ge 7, 3) := by decide +kernel
theorem dX3_wants_30 : decode cX3_wants 30 = .ok (.iconst 1, 1) := by decide +kernel
theorem dX3_wants_31 : decode cX3_wants 31 = .ok (.goto 4, 3) := by decide +kernel
theorem dX3_wants_34 : decode cX3_wants 34 = .ok (.iconst 0, 1) := by decide +kernel
theorem dX3_wants_35 : decode cX3_wants 35 = .ok (.ireturn, 1) := by decide +kernel
theorem dX4_init_0 : decode cX4_init 0 = .ok (.aload_n 0, 1) := by decide +kernel
theorem dX4_init_1 : decode cX4_init 1 = .ok (.invokespecial 3, 3) := by decide +kernel
theorem dX4_init_4 : decode cX4_init 4 = .ok (.aload_n 0, 1) := by decide +kernel
theorem dX4_init_5 : decode cX4_init 5 = .ok (.bipush 41, 2) := by decide +kernel
theorem dX4_init_7 : decode cX4_init 7 = .ok (.newarray .int, 2) := by decide +kernel
theorem dX4_init_9 : decode cX4_init 9 = .ok (.putfield 9, 3) := by decide +kernel
theorem dX4_init_12 : decode cX4_init 12 = .ok (.return_, 1) := by decide +kernel
theorem dX4_add_0 : decode cX4_add 0 = .ok (.aload_n 0, 1) := by decide +kernel
theorem dX4_add_1 : decode cX4_add 1 = .ok (.getfield 15, 3) := by decide +kernel
theorem dX4_add_4 : decode cX4_add 4 = .ok (.aload_n 0, 1) := by decide +kernel
theorem dX4_add_5 : decode cX4_add 5 = .ok (.getfield 9, 3) := by decide +kernel
theorem dX4_add_8 : decode cX4_add 8 = .ok (.arraylength, 1) := by decide +kernel
theorem dX4_add_9 : decode cX4_add 9 = .ok (.if_icmp .lt 5, 3) := by decide +kernel
theorem dX4_add_12 : decode cX4_add 12 = .ok (.iconst 0, 1) := by decide +kernel
theorem dX4_add_13 : decode cX4_add 13 = .ok (.ireturn, 1) := by decide +kernel
theorem dX4_add_14 : decode cX4_add 14 = .ok (.aload_n 0, 1) := by decide +kernel
theorem dX4_add_15 : decode cX4_add 15 = .ok (.getfield 9, 3) := by decide +kernel
theorem dX4_add_18 : decode cX4_add 18 = .ok (.aload_n 0, 1) := by decide +kernel
theorem dX4_add_19 : decode cX4_add 19 = .ok (.getfield 15, 3) := by decide +kernel
theorem dX4_add_22 : decode cX4_add 22 = .ok (.iload_n 1, 1) := by decide +kernel
theorem dX4_add_23 : decode cX4_add 23 = .ok (.iastore, 1) := by decide +kernel
theorem dX4_add_24 : decode cX4_add 24 = .ok (.aload_n 0, 1) := by decide +kernel
theorem dX4_add_25 : decode cX4_add 25 = .ok (.dup, 1) := by decide +kernel
theorem dX4_add_26 : decode cX4_add 26 = .ok (.getfield 15, 3) := by decide +kernel
theorem dX4_add_29 : decode cX4_add 29 = .ok (.iconst 1, 1) := by decide +kernel
theorem dX4_add_30 : decode cX4_add 30 = .ok (.iadd, 1) := by decide +kernel
theorem dX4_add_31 : decode cX4_add 31 = .ok (.putfield 15, 3) := by decide +kernel
theorem dX4_add_34 : decode cX4_add 34 = .ok (.iconst 1, 1) := by decide +kernel
theorem dX4_add_35 : decode cX4_add 35 = .ok (.ireturn, 1) := by decide +kernel
theorem dX4_clear_0 : decode cX4_clear 0 = .ok (.aload_n 0, 1) := by decide +kernel
theorem dX4_clear_1 : decode cX4_clear 1 = .ok (.iconst 0, 1) := by decide +kernel
theorem dX4_clear_2 : decode cX4_clear 2 = .ok (.putfield 15, 3) := by decide +kernel
theorem dX4_clear_5 : decode cX4_clear 5 = .ok (.return_, 1) := by decide +kernel
theorem dX4_letterAt_0 : decode cX4_letterAt 0 = .ok (.iload_n 1, 1) := by decide +kernel
theorem dX4_letterAt_1 : decode cX4_letterAt 1 = .ok (.ifCond .lt 20, 3) := by decide +kernel
theorem dX4_letterAt_4 : decode cX4_letterAt 4 = .ok (.iload_n 1, 1) := by decide +kernel
theorem dX4_letterAt_5 : decode cX4_letterAt 5 = .ok (.aload_n 0, 1) := by decide +kernel
theorem dX4_letterAt_6 : decode cX4_letterAt 6 = .ok (.getfield 15, 3) := by decide +kernel
theorem dX4_letterAt_9 : decode cX4_letterAt 9 = .ok (.if_icmp .ge 12, 3) := by decide +kernel
theorem dX4_letterAt_12 : decode cX4_letterAt 12 = .ok (.aload_n 0, 1) := by decide +kernel
theorem dX4_letterAt_13 : decode cX4_letterAt 13 = .ok (.getfield 9, 3) := by decide +kernel
theorem dX4_letterAt_16 : decode cX4_letterAt 16 = .ok (.iload_n 1, 1) := by decide +kernel
theorem dX4_letterAt_17 : decode cX4_letterAt 17 = .ok (.iaload, 1) := by decide +kernel
theorem dX4_letterAt_18 : decode cX4_letterAt 18 = .ok (.goto 4, 3) := by decide +kernel
theorem dX4_letterAt_21 : decode cX4_letterAt 21 = .ok (.iconst (-1), 1) := by decide +kernel
theorem dX4_letterAt_22 : decode cX4_letterAt 22 = .ok (.ireturn, 1) := by decide +kernel
theorem dX4_digitAt_0 : decode cX4_digitAt 0 = .ok (.aload_n 0, 1) := by decide +kernel
theorem dX4_digitAt_1 : decode cX4_digitAt 1 = .ok (.iload_n 1, 1) := by decide +kernel
theorem dX4_digitAt_2 : decode cX4_digitAt 2 = .ok (.invokevirtual 19, 3) := by decide +kernel
theorem dX4_digitAt_5 : decode cX4_digitAt 5 = .ok (.bipush 48, 2) := by decide +kernel
theorem dX4_digitAt_7 : decode cX4_digitAt 7 = .ok (.isub, 1) := by decide +kernel
theorem dX4_digitAt_8 : decode cX4_digitAt 8 = .ok (.ireturn, 1) := by decide +kernel
theorem dX4_endsSideAt_0 : decode cX4_endsSideAt 0 = .ok (.aload_n 0, 1) := by decide +kernel
theorem dX4_endsSideAt_1 : decode cX4_endsSideAt 1 = .ok (.iload_n 1, 1) := by decide +kernel
theorem dX4_endsSideAt_2 : decode cX4_endsSideAt 2 = .ok (.invokevirtual 19, 3) := by decide +kernel
theorem dX4_endsSideAt_5 : decode cX4_endsSideAt 5 = .ok (.bipush 59, 2) := by decide +kernel
theorem dX4_endsSideAt_7 : decode cX4_endsSideAt 7 = .ok (.if_icmp .ne 7, 3) := by decide +kernel
theorem dX4_endsSideAt_10 : decode cX4_endsSideAt 10 = .ok (.iconst 1, 1) := by decide +kernel
theorem dX4_endsSideAt_11 : decode cX4_endsSideAt 11 = .ok (.goto 4, 3) := by decide +kernel
theorem dX4_endsSideAt_14 : decode cX4_endsSideAt 14 = .ok (.iconst 0, 1) := by decide +kernel
theorem dX4_endsSideAt_15 : decode cX4_endsSideAt 15 = .ok (.ireturn, 1) := by decide +kernel
theorem dX4_firstFault_0 : decode cX4_firstFault 0 = .ok (.iconst 0, 1) := by decide +kernel
theorem dX4_firstFault_1 : decode cX4_firstFault 1 = .ok (.istore_n 1, 1) := by decide +kernel
theorem dX4_firstFault_2 : decode cX4_firstFault 2 = .ok (.iconst 0, 1) := by decide +kernel
theorem dX4_firstFault_3 : decode cX4_firstFault 3 = .ok (.istore_n 2, 1) := by decide +kernel
theorem dX4_firstFault_4 : decode cX4_firstFault 4 = .ok (.iconst 0, 1) := by decide +kernel
theorem dX4_firstFault_5 : decode cX4_firstFault 5 = .ok (.istore_n 3, 1) := by decide +kernel
theorem dX4_firstFault_6 : decode cX4_firstFault 6 = .ok (.iload_n 3, 1) := by decide +kernel
theorem dX4_firstFault_7 : decode cX4_firstFault 7 = .ok (.aload_n 0, 1) := by decide +kernel
theorem dX4_firstFault_8 : decode cX4_firstFault 8 = .ok (.getfield 15, 3) := by decide +kernel
theorem dX4_firstFault_11 : decode cX4_firstFault 11 = .ok (.if_icmp .ge 76, 3) := by decide +kernel
theorem dX4_firstFault_14 : decode cX4_firstFault 14 = .ok (.iload_n 3, 1) := by decide +kernel
theorem dX4_firstFault_15 : decode cX4_firstFault 15 = .ok (.iconst 5, 1) := by decide +kernel
theorem dX4_firstFault_16 : decode cX4_firstFault 16 = .ok (.irem, 1) := by decide +kernel
theorem dX4_firstFault_17 : decode cX4_firstFault 17 = .ok (.istore 4, 2) := by decide +kernel
theorem dX4_firstFault_19 : decode cX4_firstFault 19 = .ok (.iload 4, 2) := by decide +kernel
theorem dX4_firstFault_21 : decode cX4_firstFault 21 = .ok (.iconst 4, 1) := by decide +kernel
theorem dX4_firstFault_22 : decode cX4_firstFault 22 = .ok (.if_icmp .eq 19, 3) := by decide +kernel
theorem dX4_firstFault_25 : decode cX4_firstFault 25 = .ok (.iload 4, 2) := by decide +kernel
theorem dX4_firstFault_27 : decode cX4_firstFault 27 = .ok (.aload_n 0, 1) := by decide +kernel
theorem dX4_firstFault_28 : decode cX4_firstFault 28 = .ok (.getfield 9, 3) := by decide +kernel
theorem dX4_firstFault_31 : decode cX4_firstFault 31 = .ok (.iload_n 3, 1) := by decide +kernel
theorem dX4_firstFault_32 : decode cX4_firstFault 32 = .ok (.iaload, 1) := by decide +kernel
theorem dX4_firstFault_33 : decode cX4_firstFault 33 = .ok (.invokestatic 23, 3) := by decide +kernel
theorem dX4_firstFault_36 : decode cX4_firstFault 36 = .ok (.ifCond .ne 45, 3) := by decide +kernel
theorem dX4_firstFault_39 : decode cX4_firstFault 39 = .ok (.iload_n 3, 1) := by decide +kernel
theorem dX4_firstFault_40 : decode cX4_firstFault 40 = .ok (.ireturn, 1) := by decide +kernel
theorem dX4_firstFault_41 : decode cX4_firstFault 41 = .ok (.iinc 2 1, 3) := by decide +kernel
theorem dX4_firstFault_44 : decode cX4_firstFault 44 = .ok (.aload_n 0, 1) := by decide +kernel
theorem dX4_firstFault_45 : decode cX4_firstFault 45 = .ok (.iload_n 3, 1) := by decide +kernel
theorem dX4_firstFault_46 : decode cX4_firstFault 46 = .ok (.invokevirtual 27, 3) := by decide +kernel
theorem dX4_firstFault_49 : decode cX4_firstFault 49 = .ok (.ifCond .eq 14, 3) := by decide +kernel
theorem dX4_firstFault_52 : decode cX4_firstFault 52 = .ok (.iload_n 1, 1) := by decide +kernel
theorem dX4_firstFault_53 : decode cX4_firstFault 53 = .ok (.ifCond .ne 10, 3) := by decide +kernel
theorem dX4_firstFault_56 : decode cX4_firstFault 56 = .ok (.iconst 1, 1) := by decide +kernel
theorem dX4_firstFault_57 : decode cX4_firstFault 57 = .ok (.istore_n 1, 1) := by decide +kernel
theorem dX4_firstFault_58 : decode cX4_firstFault 58 = .ok (.iconst 0, 1) := by decide +kernel
theorem dX4_firstFault_59 : decode cX4_firstFault 59 = .ok (.istore_n 2, 1) := by decide +kernel
theorem dX4_firstFault_60 : decode cX4_firstFault 60 = .ok (.goto 21, 3) := by decide +kernel
theorem dX4_firstFault_63 : decode cX4_firstFault 63 = .ok (.aload_n 0, 1) := by decide +kernel
theorem dX4_firstFault_64 : decode cX4_firstFault 64 = .ok (.getfield 9, 3) := by decide +kernel
theorem dX4_firstFault_67 : decode cX4_firstFault 67 = .ok (.iload_n 3, 1) := by decide +kernel
theorem dX4_firstFault_68 : decode cX4_firstFault 68 = .ok (.iaload, 1) := by decide +kernel
theorem dX4_firstFault_69 : decode cX4_firstFault 69 = .ok (.bipush 44, 2) := by decide +kernel
theorem dX4_firstFault_71 : decode cX4_firstFault 71 = .ok (.if_icmp .ne 8, 3) := by decide +kernel
theorem dX4_firstFault_74 : decode cX4_firstFault 74 = .ok (.iload_n 2, 1) := by decide +kernel
theorem dX4_firstFault_75 : decode cX4_firstFault 75 = .ok (.iconst 4, 1) := by decide +kernel
theorem dX4_firstFault_76 : decode cX4_firstFault 76 = .ok (.if_icmp .lt 5, 3) := by decide +kernel
theorem dX4_firstFault_79 : decode cX4_firstFault 79 = .ok (.iload_n 3, 1) := by decide +kernel
theorem dX4_firstFault_80 : decode cX4_firstFault 80 = .ok (.ireturn, 1) := by decide +kernel
theorem dX4_firstFault_81 : decode cX4_firstFault 81 = .ok (.iinc 3 1, 3) := by decide +kernel
theorem dX4_firstFault_84 : decode cX4_firstFault 84 = .ok (.goto (-78), 3) := by decide +kernel
theorem dX4_firstFault_87 : decode cX4_firstFault 87 = .ok (.aload_n 0, 1) := by decide +kernel
theorem dX4_firstFault_88 : decode cX4_firstFault 88 = .ok (.getfield 15, 3) := by decide +kernel
theorem dX4_firstFault_91 : decode cX4_firstFault 91 = .ok (.ireturn, 1) := by decide +kernel
theorem dX4_isSea_0 : decode cX4_isSea 0 = .ok (.aload_n 0, 1) := by decide +kernel
theorem dX4_isSea_1 : decode cX4_isSea 1 = .ok (.invokevirtual 31, 3) := by decide +kernel
theorem dX4_isSea_4 : decode cX4_isSea 4 = .ok (.aload_n 0, 1) := by decide +kernel
theorem dX4_isSea_5 : decode cX4_isSea 5 = .ok (.getfield 15, 3) := by decide +kernel
theorem dX4_isSea_8 : decode cX4_isSea 8 = .ok (.if_icmp .ne 24, 3) := by decide +kernel
theorem dX4_isSea_11 : decode cX4_isSea 11 = .ok (.aload_n 0, 1) := by decide +kernel
theorem dX4_isSea_12 : decode cX4_isSea 12 = .ok (.getfield 15, 3) := by decide +kernel
theorem dX4_isSea_15 : decode cX4_isSea 15 = .ok (.iconst 5, 1) := by decide +kernel
theorem dX4_isSea_16 : decode cX4_isSea 16 = .ok (.irem, 1) := by decide +kernel
theorem dX4_isSea_17 : decode cX4_isSea 17 = .ok (.iconst 4, 1) := by decide +kernel
theorem dX4_isSea_18 : decode cX4_isSea 18 = .ok (.if_icmp .ne 14, 3) := by decide +kernel
theorem dX4_isSea_21 : decode cX4_isSea 21 = .ok (.aload_n 0, 1) := by decide +kernel
theorem dX4_isSea_22 : decode cX4_isSea 22 = .ok (.invokevirtual 35, 3) := by decide +kernel
theorem dX4_isSea_25 : decode cX4_isSea 25 = .ok (.ifCond .eq 7, 3) := by decide +kernel
theorem dX4_isSea_28 : decode cX4_isSea 28 = .ok (.iconst 1, 1) := by decide +kernel
theorem dX4_isSea_29 : decode cX4_isSea 29 = .ok (.goto 4, 3) := by decide +kernel
theorem dX4_isSea_32 : decode cX4_isSea 32 = .ok (.iconst 0, 1) := by decide +kernel
theorem dX4_isSea_33 : decode cX4_isSea 33 = .ok (.ireturn, 1) := by decide +kernel
theorem dX4_hasTwoSides_0 : decode cX4_hasTwoSides 0 = .ok (.iconst 4, 1) := by decide +kernel
theorem dX4_hasTwoSides_1 : decode cX4_hasTwoSides 1 = .ok (.istore_n 1, 1) := by decide +kernel
theorem dX4_hasTwoSides_2 : decode cX4_hasTwoSides 2 = .ok (.iload_n 1, 1) := by decide +kernel
theorem dX4_hasTwoSides_3 : decode cX4_hasTwoSides 3 = .ok (.aload_n 0, 1) := by decide +kernel
theorem dX4_hasTwoSides_4 : decode cX4_hasTwoSides 4 = .ok (.getfield 15, 3) := by decide +kernel
theorem dX4_hasTwoSides_7 : decode cX4_hasTwoSides 7 = .ok (.if_icmp .ge 19, 3) := by decide +kernel
theorem dX4_hasTwoSides_10 : decode cX4_hasTwoSides 10 = .ok (.aload_n 0, 1) := by decide +kernel
theorem dX4_hasTwoSides_11 : decode cX4_hasTwoSides 11 = .ok (.iload_n 1, 1) := by decide +kernel
theorem dX4_hasTwoSides_12 : decode cX4_hasTwoSides 12 = .ok (.invokevirtual 27, 3) := by decide +kernel
theorem dX4_hasTwoSides_15 : decode cX4_hasTwoSides 15 = .ok (.ifCond .eq 5, 3) := by decide +kernel
theorem dX4_hasTwoSides_18 : decode cX4_hasTwoSides 18 = .ok (.iconst 1, 1) := by decide +kernel
theorem dX4_hasTwoSides_19 : decode cX4_hasTwoSides 19 = .ok (.ireturn, 1) := by decide +kernel
theorem dX4_hasTwoSides_20 : decode cX4_hasTwoSides 20 = .ok (.iinc 1 5, 3) := by decide +kernel
theorem dX4_hasTwoSides_23 : decode cX4_hasTwoSides 23 = .ok (.goto (-21), 3) := by decide +kernel
theorem dX4_hasTwoSides_26 : decode cX4_hasTwoSides 26 = .ok (.iconst 0, 1) := by decide +kernel
theorem dX4_hasTwoSides_27 : decode cX4_hasTwoSides 27 = .ok (.ireturn, 1) := by decide +kernel
theorem dX4_fitsPerson_0 : decode cX4_fitsPerson 0 = .ok (.iload_n 0, 1) := by decide +kernel
theorem dX4_fitsPerson_1 : decode cX4_fitsPerson 1 = .ok (.ifCond .ne 8, 3) := by decide +kernel
theorem dX4_fitsPerson_4 : decode cX4_fitsPerson 4 = .ok (.iload_n 1, 1) := by decide +kernel
theorem dX4_fitsPerson_5 : decode cX4_fitsPerson 5 = .ok (.invokestatic 39, 3) := by decide +kernel
theorem dX4_fitsPerson_8 : decode cX4_fitsPerson 8 = .ok (.ireturn, 1) := by decide +kernel
theorem dX4_fitsPerson_9 : decode cX4_fitsPerson 9 = .ok (.iload_n 0, 1) := by decide +kernel
theorem dX4_fitsPerson_10 : decode cX4_fitsPerson 10 = .ok (.iconst 2, 1) := by decide +kernel
theorem dX4_fitsPerson_11 : decode cX4_fitsPerson 11 = .ok (.if_icmp .ne 7, 3) := by decide +kernel
theorem dX4_fitsPerson_14 : decode cX4_fitsPerson 14 = .ok (.iconst 3, 1) := by decide +kernel
theorem dX4_fitsPerson_15 : decode cX4_fitsPerson 15 = .ok (.goto 5, 3) := by decide +kernel
theorem dX4_fitsPerson_18 : decode cX4_fitsPerson 18 = .ok (.bipush 9, 2) := by decide +kernel
theorem dX4_fitsPerson_20 : decode cX4_fitsPerson 20 = .ok (.istore_n 2, 1) := by decide +kernel
theorem dX4_fitsPerson_21 : decode cX4_fitsPerson 21 = .ok (.iload_n 1, 1) := by decide +kernel
theorem dX4_fitsPerson_22 : decode cX4_fitsPerson 22 = .ok (.bipush 48, 2) := by decide +kernel
theorem dX4_fitsPerson_24 : decode cX4_fitsPerson 24 = .ok (.isub, 1) := by decide +kernel
theorem dX4_fitsPerson_25 : decode cX4_fitsPerson 25 = .ok (.iconst 0, 1) := by decide +kernel
theorem dX4_fitsPerson_26 : decode cX4_fitsPerson 26 = .ok (.iload_n 2, 1) := by decide +kernel
theorem dX4_fitsPerson_27 : decode cX4_fitsPerson 27 = .ok (.invokestatic 44, 3) := by decide +kernel
theorem dX4_fitsPerson_30 : decode cX4_fitsPerson 30 = .ok (.ireturn, 1) := by decide +kernel
theorem dX5_init_0 : decode cX5_init 0 = .ok (.aload_n 0, 1) := by decide +kernel
theorem dX5_init_1 : decode cX5_init 1 = .ok (.invokespecial 3, 3) := by decide +kernel
theorem dX5_init_4 : decode cX5_init 4 = .ok (.aload_n 0, 1) := by decide +kernel
theorem dX5_init_5 : decode cX5_init 5 = .ok (.getstatic 9, 3) := by decide +kernel
theorem dX5_init_8 : decode cX5_init 8 = .ok (.putfield 15, 3) := by decide +kernel
theorem dX5_init_11 : decode cX5_init 11 = .ok (.aload_n 0, 1) := by decide +kernel
theorem dX5_init_12 : decode cX5_init 12 = .ok (.iconst (-1), 1) := by decide +kernel
theorem dX5_init_13 : decode cX5_init 13 = .ok (.putfield 20, 3) := by decide +kernel
theorem dX5_init_16 : decode cX5_init 16 = .ok (.aload_n 0, 1) := by decide +kernel
theorem dX5_init_17 : decode cX5_init 17 = .ok (.iload_n 1, 1) := by decide +kernel
theorem dX5_init_18 : decode cX5_init 18 = .ok (.putfield 24, 3) := by decide +kernel
theorem dX5_init_21 : decode cX5_init 21 = .ok (.aload_n 0, 1) := by decide +kernel
theorem dX5_init_22 : decode cX5_init 22 = .ok (.iconst 1, 1) := by decide +kernel
theorem dX5_init_23 : decode cX5_init 23 = .ok (.iload_n 1, 1) := by decide +kernel
theorem dX5_init_24 : decode cX5_init 24 = .ok (.ishl, 1) := by decide +kernel
theorem dX5_init_25 : decode cX5_init 25 = .ok (.putfield 27, 3) := by decide +kernel
theorem dX5_init_28 : decode cX5_init 28 = .ok (.return_, 1) := by decide +kernel
theorem dX5_copyFrom_0 : decode cX5_copyFrom 0 = .ok (.aload_n 0, 1) := by decide +kernel
theorem dX5_copyFrom_1 : decode cX5_copyFrom 1 = .ok (.aload_n 1, 1) := by decide +kernel
theorem dX5_copyFrom_2 : decode cX5_copyFrom 2 = .ok (.getfield 15, 3) := by decide +kernel
theorem dX5_copyFrom_5 : decode cX5_copyFrom 5 = .ok (.putfield 15, 3) := by decide +kernel
theorem dX5_copyFrom_8 : decode cX5_copyFrom 8 = .ok (.aload_n 0, 1) := by decide +kernel
theorem dX5_copyFrom_9 : decode cX5_copyFrom 9 = .ok (.aload_n 1, 1) := by decide +kernel
theorem dX5_copyFrom_10 : decode cX5_copyFrom 10 = .ok (.getfield 30, 3) := by decide +kernel
theorem dX5_copyFrom_13 : decode cX5_copyFrom 13 = .ok (.putfield 30, 3) := by decide +kernel
theorem dX5_copyFrom_16 : decode cX5_copyFrom 16 = .ok (.aload_n 0, 1) := by decide +kernel
theorem dX5_copyFrom_17 : decode cX5_copyFrom 17 = .ok (.aload_n 1, 1) := by decide +kernel
theorem dX5_copyFrom_18 : decode cX5_copyFrom 18 = .ok (.getfield 33, 3) := by decide +kernel
theorem dX5_copyFrom_21 : decode cX5_copyFrom 21 = .ok (.putfield 33, 3) := by decide +kernel
theorem dX5_copyFrom_24 : decode cX5_copyFrom 24 = .ok (.aload_n 0, 1) := by decide +kernel
theorem dX5_copyFrom_25 : decode cX5_copyFrom 25 = .ok (.aload_n 1, 1) := by decide +kernel
theorem dX5_copyFrom_26 : decode cX5_copyFrom 26 = .ok (.getfield 36, 3) := by decide +kernel
theorem dX5_copyFrom_29 : decode cX5_copyFrom 29 = .ok (.putfield 36, 3) := by decide +kernel
theorem dX5_copyFrom_32 : decode cX5_copyFrom 32 = .ok (.aload_n 0, 1) := by decide +kernel
theorem dX5_copyFrom_33 : decode cX5_copyFrom 33 = .ok (.aload_n 1, 1) := by decide +kernel
theorem dX5_copyFrom_34 : decode cX5_copyFrom 34 = .ok (.getfield 39, 3) := by decide +kernel
theorem dX5_copyFrom_37 : decode cX5_copyFrom 37 = .ok (.putfield 39, 3) := by decide +kernel
theorem dX5_copyFrom_40 : decode cX5_copyFrom 40 = .ok (.aload_n 0, 1) := by decide +kernel
theorem dX5_copyFrom_41 : decode cX5_copyFrom 41 = .ok (.aload_n 1, 1) := by decide +kernel
theorem dX5_copyFrom_42 : decode cX5_copyFrom 42 = .ok (.getfield 42, 3) := by decide +kernel
theorem dX5_copyFrom_45 : decode cX5_copyFrom 45 = .ok (.putfield 42, 3) := by decide +kernel
theorem dX5_copyFrom_48 : decode cX5_copyFrom 48 = .ok (.aload_n 0, 1) := by decide +kernel
theorem dX5_copyFrom_49 : decode cX5_copyFrom 49 = .ok (.aload_n 1, 1) := by decide +kernel
theorem dX5_copyFrom_50 : decode cX5_copyFrom 50 = .ok (.getfield 45, 3) := by decide +kernel
theorem dX5_copyFrom_53 : decode cX5_copyFrom 53 = .ok (.putfield 45, 3) := by decide +kernel
theorem dX5_copyFrom_56 : decode cX5_copyFrom 56 = .ok (.aload_n 0, 1) := by decide +kernel
theorem dX5_copyFrom_57 : decode cX5_copyFrom 57 = .ok (.aload_n 1, 1) := by decide +kernel
theorem dX5_copyFrom_58 : decode cX5_copyFrom 58 = .ok (.getfield 48, 3) := by decide +kernel
theorem dX5_copyFrom_61 : decode cX5_copyFrom 61 = .ok (.putfield 48, 3) := by decide +kernel
theorem dX5_copyFrom_64 : decode cX5_copyFrom 64 = .ok (.aload_n 0, 1) := by decide +kernel
theorem dX5_copyFrom_65 : decode cX5_copyFrom 65 = .ok (.aload_n 1, 1) := by decide +kernel
theorem dX5_copyFrom_66 : decode cX5_copyFrom 66 = .ok (.getfield 51, 3) := by decide +kernel
theorem dX5_copyFrom_69 : decode cX5_copyFrom 69 = .ok (.putfield 51, 3) := by decide +kernel
theorem dX5_copyFrom_72 : decode cX5_copyFrom 72 = .ok (.aload_n 0, 1) := by decide +kernel
theorem dX5_copyFrom_73 : decode cX5_copyFrom 73 = .ok (.aload_n 1, 1) := by decide +kernel
theorem dX5_copyFrom_74 : decode cX5_copyFrom 74 = .ok (.getfield 20, 3) := by decide +kernel
theorem dX5_copyFrom_77 : decode cX5_copyFrom 77 = .ok (.putfield 20, 3) := by decide +kernel
theorem dX5_copyFrom_80 : decode cX5_copyFrom 80 = .ok (.return_, 1) := by decide +kernel
theorem dX5_clearShown_0 : decode cX5_clearShown 0 = .ok (.aload_n 0, 1) := by decide +kernel
theorem dX5_clearShown_1 : decode cX5_clearShown 1 = .ok (.iconst 0, 1) := by decide +kernel
theorem dX5_clearShown_2 : decode cX5_clearShown 2 = .ok (.putfield 42, 3) := by decide +kernel
theorem dX5_clearShown_5 : decode cX5_clearShown 5 = .ok (.aload_n 0, 1) := by decide +kernel
theorem dX5_clearShown_6 : decode cX5_clearShown 6 = .ok (.iconst 0, 1) := by decide +kernel
theorem dX5_clearShown_7 : decode cX5_clearShown 7 = .ok (.putfield 45, 3) := by decide +kernel
theorem dX5_clearShown_10 : decode cX5_clearShown 10 = .ok (.aload_n 0, 1) := by decide +kernel
theorem dX5_clearShown_11 : decode cX5_clearShown 11 = .ok (.iconst 0, 1) := by decide +kernel
theorem dX5_clearShown_12 : decode cX5_clearShown 12 = .ok (.putfield 48, 3) := by decide +kernel
theorem dX5_clearShown_15 : decode cX5_clearShown 15 = .ok (.aload_n 0, 1) := by decide +kernel
theorem dX5_clearShown_16 : decode cX5_clearShown 16 = .ok (.iconst 0, 1) := by decide +kernel
theorem dX5_clearShown_17 : decode cX5_clearShown 17 = .ok (.putfield 51, 3) := by decide +kernel
theorem dX5_clearShown_20 : decode cX5_clearShown 20 = .ok (.return_, 1) := by decide +kernel
theorem dX5_picture_0 : decode cX5_picture 0 = .ok (.aload_n 0, 1) := by decide +kernel
theorem dX5_picture_1 : decode cX5_picture 1 = .ok (.getfield 33, 3) := by decide +kernel
theorem dX5_picture_4 : decode cX5_picture 4 = .ok (.aload_n 0, 1) := by decide +kernel
theorem dX5_picture_5 : decode cX5_picture 5 = .ok (.getfield 36, 3) := by decide +kernel
theorem dX5_picture_8 : decode cX5_picture 8 = .ok (.iadd, 1) := by decide +kernel
theorem dX5_picture_9 : decode cX5_picture 9 = .ok (.ireturn, 1) := by decide +kernel
theorem dX5_isTaken_0 : decode cX5_isTaken 0 = .ok (.aload_n 0, 1) := by decide +kernel
theorem dX5_isTaken_1 : decode cX5_isTaken 1 = .ok (.getfield 20, 3) := by decide +kernel
theorem dX5_isTaken_4 : decode cX5_isTaken 4 = .ok (.iconst (-1), 1) := by decide +kernel
theorem dX5_isTaken_5 : decode cX5_isTaken 5 = .ok (.if_icmp .eq 7, 3) := by decide +kernel
theorem dX5_isTaken_8 : decode cX5_isTaken 8 = .ok (.iconst 1, 1) := by decide +kernel
theorem dX5_isTaken_9 : decode cX5_isTaken 9 = .ok (.goto 4, 3) := by decide +kernel
theorem dX5_isTaken_12 : decode cX5_isTaken 12 = .ok (.iconst 0, 1) := by decide +kernel
theorem dX5_isTaken_13 : decode cX5_isTaken 13 = .ok (.ireturn, 1) := by decide +kernel
theorem dX5_isGone_0 : decode cX5_isGone 0 = .ok (.aload_n 0, 1) := by decide +kernel
theorem dX5_isGone_1 : decode cX5_isGone 1 = .ok (.getfield 15, 3) := by decide +kernel
theorem dX5_isGone_4 : decode cX5_isGone 4 = .ok (.getstatic 54, 3) := by decide +kernel
theorem dX5_isGone_7 : decode cX5_isGone 7 = .ok (.if_acmp .ne 7, 3) := by decide +kernel
theorem dX5_isGone_10 : decode cX5_isGone 10 = .ok (.iconst 1, 1) := by decide +kernel
theorem dX5_isGone_11 : decode cX5_isGone 11 = .ok (.goto 4, 3) := by decide +kernel
theorem dX5_isGone_14 : decode cX5_isGone 14 = .ok (.iconst 0, 1) := by decide +kernel
theorem dX5_isGone_15 : decode cX5_isGone 15 = .ok (.ireturn, 1) := by decide +kernel
theorem dX5_isFree_0 : decode cX5_isFree 0 = .ok (.aload_n 0, 1) := by decide +kernel
theorem dX5_isFree_1 : decode cX5_isFree 1 = .ok (.invokevirtual 57, 3) := by decide +kernel
theorem dX5_isFree_4 : decode cX5_isFree 4 = .ok (.ifCond .ne 14, 3) := by decide +kernel
theorem dX5_isFree_7 : decode cX5_isFree 7 = .ok (.aload_n 0, 1) := by decide +kernel
theorem dX5_isFree_8 : decode cX5_isFree 8 = .ok (.invokevirtual 61, 3) := by decide +kernel
theorem dX5_isFree_11 : decode cX5_isFree 11 = .ok (.ifCond .ne 7, 3) := by decide +kernel
theorem dX5_isFree_14 : decode cX5_isFree 14 = .ok (.iconst 1, 1) := by decide +kernel
theorem dX5_isFree_15 : decode cX5_isFree 15 = .ok (.goto 4, 3) := by decide +kernel
theorem dX5_isFree_18 : decode cX5_isFree 18 = .ok (.iconst 0, 1) := by decide +kernel
theorem dX5_isFree_19 : decode cX5_isFree 19 = .ok (.ireturn, 1) := by decide +kernel
theorem dX5_isCoupleWith_0 : decode cX5_isCoupleWith 0 = .ok (.aload_n 0, 1) := by decide +kernel
theorem dX5_isCoupleWith_1 : decode cX5_isCoupleWith 1 = .ok (.getfield 20, 3) := by decide +kernel
theorem dX5_isCoupleWith_4 : decode cX5_isCoupleWith 4 = .ok (.aload_n 1, 1) := by decide +kernel
theorem dX5_isCoupleWith_5 : decode cX5_isCoupleWith 5 = .ok (.getfield 24, 3) := by decide +kernel
theorem dX5_isCoupleWith_8 : decode cX5_isCoupleWith 8 = .ok (.if_icmp .ne 7, 3) := by decide +kernel
theorem dX5_isCoupleWith_11 : decode cX5_isCoupleWith 11 = .ok (.iconst 1, 1) := by decide +kernel
theorem dX5_isCoupleWith_12 : decode cX5_isCoupleWith 12 = .ok (.goto 4, 3) := by decide +kernel
theorem dX5_isCoupleWith_15 : decode cX5_isCoupleWith 15 = .ok (.iconst 0, 1) := by decide +kernel
theorem dX5_isCoupleWith_16 : decode cX5_isCoupleWith 16 = .ok (.ireturn, 1) := by decide +kernel
theorem dX5_isContentWith_0 : decode cX5_isContentWith 0 = .ok (.aload_n 0, 1) := by decide +kernel
theorem dX5_isContentWith_1 : decode cX5_isContentWith 1 = .ok (.aload_n 0, 1) := by decide +kernel
theorem dX5_isContentWith_2 : decode cX5_isContentWith 2 = .ok (.getfield 39, 3) := by decide +kernel
theorem dX5_isContentWith_5 : decode cX5_isContentWith 5 = .ok (.iload_n 1, 1) := by decide +kernel
theorem dX5_isContentWith_6 : decode cX5_isContentWith 6 = .ok (.invokevirtual 64, 3) := by decide +kernel
theorem dX5_isContentWith_9 : decode cX5_isContentWith 9 = .ok (.ireturn, 1) := by decide +kernel
theorem dX5_wouldBeContent_0 : decode cX5_wouldBeContent 0 = .ok (.aload_n 0, 1) := by decide +kernel
theorem dX5_wouldBeContent_1 : decode cX5_wouldBeContent 1 = .ok (.getfield 15, 3) := by decide +kernel
theorem dX5_wouldBeContent_4 : decode cX5_wouldBeContent 4 = .ok (.getstatic 68, 3) := by decide +kernel
theorem dX5_wouldBeContent_7 : decode cX5_wouldBeContent 7 = .ok (.if_acmp .eq 8, 3) := by decide +kernel
theorem dX5_wouldBeContent_10 : decode cX5_wouldBeContent 10 = .ok (.iload_n 2, 1) := by decide +kernel
theorem dX5_wouldBeContent_11 : decode cX5_wouldBeContent 11 = .ok (.iload_n 1, 1) := by decide +kernel
theorem dX5_wouldBeContent_12 : decode cX5_wouldBeContent 12 = .ok (.if_icmp .lt 7, 3) := by decide +kernel
theorem dX5_wouldBeContent_15 : decode cX5_wouldBeContent 15 = .ok (.iconst 1, 1) := by decide +kernel
theorem dX5_wouldBeContent_16 : decode cX5_wouldBeContent 16 = .ok (.goto 4, 3) := by decide +kernel
theorem dX5_wouldBeContent_19 : decode cX5_wouldBeContent 19 = .ok (.iconst 0, 1) := by decide +kernel
theorem dX5_wouldBeContent_20 : decode cX5_wouldBeContent 20 = .ok (.ireturn, 1) := by decide +kernel
theorem dX5_likes_0 : decode cX5_likes 0 = .ok (.aload_n 0, 1) := by decide +kernel
theorem dX5_likes_1 : decode cX5_likes 1 = .ok (.getfield 30, 3) := by decide +kernel
theorem dX5_likes_4 : decode cX5_likes 4 = .ok (.aload_n 1, 1) := by decide +kernel
theorem dX5_likes_5 : decode cX5_likes 5 = .ok (.getfield 30, 3) := by decide +kernel
theorem dX5_likes_8 : decode cX5_likes 8 = .ok (.if_icmp .eq 22, 3) := by decide +kernel
theorem dX5_likes_11 : decode cX5_likes 11 = .ok (.aload_n 0, 1) := by decide +kernel
theorem dX5_likes_12 : decode cX5_likes 12 = .ok (.aload_n 0, 1) := by decide +kernel
theorem dX5_likes_13 : decode cX5_likes 13 = .ok (.getfield 39, 3) := by decide +kernel
theorem dX5_likes_16 : decode cX5_likes 16 = .ok (.aload_n 1, 1) := by decide +kernel
theorem dX5_likes_17 : decode cX5_likes 17 = .ok (.invokevirtual 71, 3) := by decide +kernel
theorem dX5_likes_20 : decode cX5_likes 20 = .ok (.invokevirtual 64, 3) := by decide +kernel
theorem dX5_likes_23 : decode cX5_likes 23 = .ok (.ifCond .eq 7, 3) := by decide +kernel
theorem dX5_likes_26 : decode cX5_likes 26 = .ok (.iconst 1, 1) := by decide +kernel
theorem dX5_likes_27 : decode cX5_likes 27 = .ok (.goto 4, 3) := by decide +kernel
theorem dX5_likes_30 : decode cX5_likes 30 = .ok (.iconst 0, 1) := by decide +kernel
theorem dX5_likes_31 : decode cX5_likes 31 = .ok (.ireturn, 1) := by decide +kernel
theorem dX5_wentRightOn_0 : decode cX5_wentRightOn 0 = .ok (.aload_n 0, 1) := by decide +kernel
theorem dX5_wentRightOn_1 : decode cX5_wentRightOn 1 = .ok (.getfield 42, 3) := by decide +kernel
theorem dX5_wentRightOn_4 : decode cX5_wentRightOn 4 = .ok (.aload_n 1, 1) := by decide +kernel
theorem dX5_wentRightOn_5 : decode cX5_wentRightOn 5 = .ok (.getfield 27, 3) := by decide +kernel
theorem dX5_wentRightOn_8 : decode cX5_wentRightOn 8 = .ok (.iand, 1) := by decide +kernel
theorem dX5_wentRightOn_9 : decode cX5_wentRightOn 9 = .ok (.ifCond .eq 7, 3) := by decide +kernel
theorem dX5_wentRightOn_12 : decode cX5_wentRightOn 12 = .ok (.iconst 1, 1) := by decide +kernel
theorem dX5_wentRightOn_13 : decode cX5_wentRightOn 13 = .ok (.goto 4, 3) := by decide +kernel
theorem dX5_wentRightOn_16 : decode cX5_wentRightOn 16 = .ok (.iconst 0, 1) := by decide +kernel
theorem dX5_wentRightOn_17 : decode cX5_wentRightOn 17 = .ok (.ireturn, 1) := by decide +kernel
theorem dX5_wasShown_0 : decode cX5_wasShown 0 = .ok (.aload_n 0, 1) := by decide +kernel
theorem dX5_wasShown_1 : decode cX5_wasShown 1 = .ok (.getfield 42, 3) := by decide +kernel
theorem dX5_wasShown_4 : decode cX5_wasShown 4 = .ok (.aload_n 0, 1) := by decide +kernel
theorem dX5_wasShown_5 : decode cX5_wasShown 5 = .ok (.getfield 45, 3) := by decide +kernel
theorem dX5_wasShown_8 : decode cX5_wasShown 8 = .ok (.ior, 1) := by decide +kernel
theorem dX5_wasShown_9 : decode cX5_wasShown 9 = .ok (.aload_n 1, 1) := by decide +kernel
theorem dX5_wasShown_10 : decode cX5_wasShown 10 = .ok (.getfield 27, 3) := by decide +kernel
theorem dX5_wasShown_13 : decode cX5_wasShown 13 = .ok (.iand, 1) := by decide +kernel
theorem dX5_wasShown_14 : decode cX5_wasShown 14 = .ok (.ifCond .eq 7, 3) := by decide +kernel
theorem dX5_wasShown_17 : decode cX5_wasShown 17 = .ok (.iconst 1, 1) := by decide +kernel
theorem dX5_wasShown_18 : decode cX5_wasShown 18 = .ok (.goto 4, 3) := by decide +kernel
theorem dX5_wasShown_21 : decode cX5_wasShown 21 = .ok (.iconst 0, 1) := by decide +kernel
theorem dX5_wasShown_22 : decode cX5_wasShown 22 = .ok (.ireturn, 1) := by decide +kernel
theorem dX5_isMatchOf_0 : decode cX5_isMatchOf 0 = .ok (.aload_n 0, 1) := by decide +kernel
theorem dX5_isMatchOf_1 : decode cX5_isMatchOf 1 = .ok (.aload_n 1, 1) := by decide +kernel
theorem dX5_isMatchOf_2 : decode cX5_isMatchOf 2 = .ok (.invokevirtual 75, 3) := by decide +kernel
theorem dX5_isMatchOf_5 : decode cX5_isMatchOf 5 = .ok (.ifCond .eq 15, 3) := by decide +kernel
theorem dX5_isMatchOf_8 : decode cX5_isMatchOf 8 = .ok (.aload_n 1, 1) := by decide +kernel
theorem dX5_isMatchOf_9 : decode cX5_isMatchOf 9 = .ok (.aload_n 0, 1) := by decide +kernel
theorem dX5_isMatchOf_10 : decode cX5_isMatchOf 10 = .ok (.invokevirtual 75, 3) := by decide +kernel
theorem dX5_isMatchOf_13 : decode cX5_isMatchOf 13 = .ok (.ifCond .eq 7, 3) := by decide +kernel
theorem dX5_isMatchOf_16 : decode cX5_isMatchOf 16 = .ok (.iconst 1, 1) := by decide +kernel
theorem dX5_isMatchOf_17 : decode cX5_isMatchOf 17 = .ok (.goto 4, 3) := by decide +kernel
theorem dX5_isMatchOf_20 : decode cX5_isMatchOf 20 = .ok (.iconst 0, 1) := by decide +kernel
theorem dX5_isMatchOf_21 : decode cX5_isMatchOf 21 = .ok (.ireturn, 1) := by decide +kernel
theorem dX5_canBeShown_0 : decode cX5_canBeShown 0 = .ok (.aload_n 0, 1) := by decide +kernel
theorem dX5_canBeShown_1 : decode cX5_canBeShown 1 = .ok (.getfield 30, 3) := by decide +kernel
theorem dX5_canBeShown_4 : decode cX5_canBeShown 4 = .ok (.aload_n 1, 1) := by decide +kernel
theorem dX5_canBeShown_5 : decode cX5_canBeShown 5 = .ok (.getfield 30, 3) := by decide +kernel
theorem dX5_canBeShown_8 : decode cX5_canBeShown 8 = .ok (.if_icmp .eq 29, 3) := by decide +kernel
theorem dX5_canBeShown_11 : decode cX5_canBeShown 11 = .ok (.aload_n 0, 1) := by decide +kernel
theorem dX5_canBeShown_12 : decode cX5_canBeShown 12 = .ok (.invokevirtual 79, 3) := by decide +kernel
theorem dX5_canBeShown_15 : decode cX5_canBeShown 15 = .ok (.ifCond .eq 22, 3) := by decide +kernel
theorem dX5_canBeShown_18 : decode cX5_canBeShown 18 = .ok (.aload_n 1, 1) := by decide +kernel
theorem dX5_canBeShown_19 : decode cX5_canBeShown 19 = .ok (.invokevirtual 57, 3) := by decide +kernel
theorem dX5_canBeShown_22 : decode cX5_canBeShown 22 = .ok (.ifCond .ne 15, 3) := by decide +kernel
theorem dX5_canBeShown_25 : decode cX5_canBeShown 25 = .ok (.aload_n 0, 1) := by decide +kernel
theorem dX5_canBeShown_26 : decode cX5_canBeShown 26 = .ok (.aload_n 1, 1) := by decide +kernel
theorem dX5_canBeShown_27 : decode cX5_canBeShown 27 = .ok (.invokevirtual 82, 3) := by decide +kernel
theorem dX5_canBeShown_30 : decode cX5_canBeShown 30 = .ok (.ifCond .ne 7, 3) := by decide +kernel
theorem dX5_canBeShown_33 : decode cX5_canBeShown 33 = .ok (.iconst 1, 1) := by decide +kernel
theorem dX5_canBeShown_34 : decode cX5_canBeShown 34 = .ok (.goto 4, 3) := by decide +kernel
theorem dX5_canBeShown_37 : decode cX5_canBeShown 37 = .ok (.iconst 0, 1) := by decide +kernel
theorem dX5_canBeShown_38 : decode cX5_canBeShown 38 = .ok (.ireturn, 1) := by decide +kernel
theorem dX5_goesRightOn_0 : decode cX5_goesRightOn 0 = .ok (.aload_n 0, 1) := by decide +kernel
theorem dX5_goesRightOn_1 : decode cX5_goesRightOn 1 = .ok (.aload_n 1, 1) := by decide +kernel
theorem dX5_goesRightOn_2 : decode cX5_goesRightOn 2 = .ok (.invokevirtual 85, 3) := by decide +kernel
theorem dX5_goesRightOn_5 : decode cX5_goesRightOn 5 = .ok (.ifCond .eq 11, 3) := by decide +kernel
theorem dX5_goesRightOn_8 : decode cX5_goesRightOn 8 = .ok (.aload_n 0, 1) := by decide +kernel
theorem dX5_goesRightOn_9 : decode cX5_goesRightOn 9 = .ok (.getfield 51, 3) := by decide +kernel
theorem dX5_goesRightOn_12 : decode cX5_goesRightOn 12 = .ok (.iload_n 2, 1) := by decide +kernel
theorem dX5_goesRightOn_13 : decode cX5_goesRightOn 13 = .ok (.if_icmp .lt 5, 3) := by decide +kernel
theorem dX5_goesRightOn_16 : decode cX5_goesRightOn 16 = .ok (.iconst 0, 1) := by decide +kernel
theorem dX5_goesRightOn_17 : decode cX5_goesRightOn 17 = .ok (.ireturn, 1) := by decide +kernel
theorem dX5_goesRightOn_18 : decode cX5_goesRightOn 18 = .ok (.aload_n 0, 1) := by decide +kernel
theorem dX5_goesRightOn_19 : decode cX5_goesRightOn 19 = .ok (.getfield 15, 3) := by decide +kernel
theorem dX5_goesRightOn_22 : decode cX5_goesRightOn 22 = .ok (.getstatic 88, 3) := by decide +kernel
theorem dX5_goesRightOn_25 : decode cX5_goesRightOn 25 = .ok (.if_acmp .ne 12, 3) := by decide +kernel
theorem dX5_goesRightOn_28 : decode cX5_goesRightOn 28 = .ok (.aload_n 0, 1) := by decide +kernel
theorem dX5_goesRightOn_29 : decode cX5_goesRightOn 29 = .ok (.invokevirtual 91, 3) := by decide +kernel
theorem dX5_goesRightOn_32 : decode cX5_goesRightOn 32 = .ok (.ifCond .eq 5, 3) := by decide +kernel
theorem dX5_goesRightOn_35 : decode cX5_goesRightOn 35 = .ok (.iconst 0, 1) := by decide +kernel
theorem dX5_goesRightOn_36 : decode cX5_goesRightOn 36 = .ok (.ireturn, 1) := by decide +kernel
theorem dX5_goesRightOn_37 : decode cX5_goesRightOn 37 = .ok (.aload_n 0, 1) := by decide +kernel
theorem dX5_goesRightOn_38 : decode cX5_goesRightOn 38 = .ok (.getfield 15, 3) := by decide +kernel
theorem dX5_goesRightOn_41 : decode cX5_goesRightOn 41 = .ok (.getstatic 94, 3) := by decide +kernel
theorem dX5_goesRightOn_44 : decode cX5_goesRightOn 44 = .ok (.getfield 97, 3) := by decide +kernel
theorem dX5_goesRightOn_47 : decode cX5_goesRightOn 47 = .ok (.invokevirtual 98, 3) := by decide +kernel
theorem dX5_goesRightOn_50 : decode cX5_goesRightOn 50 = .ok (.ifCond .eq 11, 3) := by decide +kernel
theorem dX5_goesRightOn_53 : decode cX5_goesRightOn 53 = .ok (.aload_n 1, 1) := by decide +kernel
theorem dX5_goesRightOn_54 : decode cX5_goesRightOn 54 = .ok (.aload_n 0, 1) := by decide +kernel
theorem dX5_goesRightOn_55 : decode cX5_goesRightOn 55 = .ok (.invokevirtual 75, 3) := by decide +kernel
theorem dX5_goesRightOn_58 : decode cX5_goesRightOn 58 = .ok (.ifCond .eq 7, 3) := by decide +kernel
theorem dX5_goesRightOn_61 : decode cX5_goesRightOn 61 = .ok (.iconst 1, 1) := by decide +kernel
theorem dX5_goesRightOn_62 : decode cX5_goesRightOn 62 = .ok (.goto 4, 3) := by decide +kernel
theorem dX5_goesRightOn_65 : decode cX5_goesRightOn 65 = .ok (.iconst 0, 1) := by decide +kernel
theorem dX5_goesRightOn_66 : decode cX5_goesRightOn 66 = .ok (.ireturn, 1) := by decide +kernel
theorem dX5_isTurnToHasten_0 : decode cX5_isTurnToHasten 0 = .ok (.aload_n 0, 1) := by decide +kernel
theorem dX5_isTurnToHasten_1 : decode cX5_isTurnToHasten 1 = .ok (.getfield 48, 3) := by decide +kernel
theorem dX5_isTurnToHasten_4 : decode cX5_isTurnToHasten 4 = .ok (.iconst 3, 1) := by decide +kernel
theorem dX5_isTurnToHasten_5 : decode cX5_isTurnToHasten 5 = .ok (.irem, 1) := by decide +kernel
theorem dX5_isTurnToHasten_6 : decode cX5_isTurnToHasten 6 = .ok (.iconst 2, 1) := by decide +kernel
theorem dX5_isTurnToHasten_7 : decode cX5_isTurnToHasten 7 = .ok (.if_icmp .ne 7, 3) := by decide +kernel
theorem dX5_isTurnToHasten_10 : decode cX5_isTurnToHasten 10 = .ok (.iconst 1, 1) := by decide +kernel
theorem dX5_isTurnToHasten_11 : decode cX5_isTurnToHasten 11 = .ok (.goto 4, 3) := by decide +kernel
theorem dX5_isTurnToHasten_14 : decode cX5_isTurnToHasten 14 = .ok (.iconst 0, 1) := by decide +kernel
theorem dX5_isTurnToHasten_15 : decode cX5_isTurnToHasten 15 = .ok (.ireturn, 1) := by decide +kernel
theorem dX5_goRightOn_0 : decode cX5_goRightOn 0 = .ok (.aload_n 0, 1) := by decide +kernel
theorem dX5_goRightOn_1 : decode cX5_goRightOn 1 = .ok (.dup, 1) := by decide +kernel
theorem dX5_goRightOn_2 : decode cX5_goRightOn 2 = .ok (.getfield 42, 3) := by decide +kernel
theorem dX5_goRightOn_5 : decode cX5_goRightOn 5 = .ok (.aload_n 1, 1) := by decide +kernel
theorem dX5_goRightOn_6 : decode cX5_goRightOn 6 = .ok (.getfield 27, 3) := by decide +kernel
theorem dX5_goRightOn_9 : decode cX5_goRightOn 9 = .ok (.ior, 1) := by decide +kernel
theorem dX5_goRightOn_10 : decode cX5_goRightOn 10 = .ok (.putfield 42, 3) := by decide +kernel
theorem dX5_goRightOn_13 : decode cX5_goRightOn 13 = .ok (.aload_n 0, 1) := by decide +kernel
theorem dX5_goRightOn_14 : decode cX5_goRightOn 14 = .ok (.iconst 0, 1) := by decide +kernel
theorem dX5_goRightOn_15 : decode cX5_goRightOn 15 = .ok (.putfield 48, 3) := by decide +kernel
theorem dX5_goRightOn_18 : decode cX5_goRightOn 18 = .ok (.aload_n 0, 1) := by decide +kernel
theorem dX5_goRightOn_19 : decode cX5_goRightOn 19 = .ok (.dup, 1) := by decide +kernel
theorem dX5_goRightOn_20 : decode cX5_goRightOn 20 = .ok (.getfield 51, 3) := by decide +kernel
theorem dX5_goRightOn_23 : decode cX5_goRightOn 23 = .ok (.iconst 1, 1) := by decide +kernel
theorem dX5_goRightOn_24 : decode cX5_goRightOn 24 = .ok (.iadd, 1) := by decide +kernel
theorem dX5_goRightOn_25 : decode cX5_goRightOn 25 = .ok (.putfield 51, 3) := by decide +kernel
theorem dX5_goRightOn_28 : decode cX5_goRightOn 28 = .ok (.return_, 1) := by decide +kernel
theorem dX5_goLeftOn_0 : decode cX5_goLeftOn 0 = .ok (.aload_n 0, 1) := by decide +kernel
theorem dX5_goLeftOn_1 : decode cX5_goLeftOn 1 = .ok (.dup, 1) := by decide +kernel
theorem dX5_goLeftOn_2 : decode cX5_goLeftOn 2 = .ok (.getfield 45, 3) := by decide +kernel
theorem dX5_goLeftOn_5 : decode cX5_goLeftOn 5 = .ok (.aload_n 1, 1) := by decide +kernel
theorem dX5_goLeftOn_6 : decode cX5_goLeftOn 6 = .ok (.getfield 27, 3) := by decide +kernel
theorem dX5_goLeftOn_9 : decode cX5_goLeftOn 9 = .ok (.ior, 1) := by decide +kernel
theorem dX5_goLeftOn_10 : decode cX5_goLeftOn 10 = .ok (.putfield 45, 3) := by decide +kernel
theorem dX5_goLeftOn_13 : decode cX5_goLeftOn 13 = .ok (.aload_n 0, 1) := by decide +kernel
theorem dX5_goLeftOn_14 : decode cX5_goLeftOn 14 = .ok (.dup, 1) := by decide +kernel
theorem dX5_goLeftOn_15 : decode cX5_goLeftOn 15 = .ok (.getfield 48, 3) := by decide +kernel
theorem dX5_goLeftOn_18 : decode cX5_goLeftOn 18 = .ok (.iconst 1, 1) := by decide +kernel
theorem dX5_goLeftOn_19 : decode cX5_goLeftOn 19 = .ok (.iadd, 1) := by decide +kernel
theorem dX5_goLeftOn_20 : decode cX5_goLeftOn 20 = .ok (.putfield 48, 3) := by decide +kernel
theorem dX5_goLeftOn_23 : decode cX5_goLeftOn 23 = .ok (.return_, 1) := by decide +kernel
theorem dX5_turnLeftOn_0 : decode cX5_turnLeftOn 0 = .ok (.aload_n 0, 1) := by decide +kernel
theorem dX5_turnLeftOn_1 : decode cX5_turnLeftOn 1 = .ok (.dup, 1) := by decide +kernel
theorem dX5_turnLeftOn_2 : decode cX5_turnLeftOn 2 = .ok (.getfield 42, 3) := by decide +kernel
theorem dX5_turnLeftOn_5 : decode cX5_turnLeftOn 5 = .ok (.aload_n 1, 1) := by decide +kernel
theorem dX5_turnLeftOn_6 : decode cX5_turnLeftOn 6 = .ok (.getfield 27, 3) := by decide +kernel
theorem dX5_turnLeftOn_9 : decode cX5_turnLeftOn 9 = .ok (.iconst (-1), 1) := by decide +kernel
theorem dX5_turnLeftOn_10 : decode cX5_turnLeftOn 10 = .ok (.ixor, 1) := by decide +kernel
theorem dX5_turnLeftOn_11 : decode cX5_turnLeftOn 11 = .ok (.iand, 1) := by decide +kernel
theorem dX5_turnLeftOn_12 : decode cX5_turnLeftOn 12 = .ok (.putfield 42, 3) := by decide +kernel
theorem dX5_turnLeftOn_15 : decode cX5_turnLeftOn 15 = .ok (.aload_n 0, 1) := by decide +kernel
theorem dX5_turnLeftOn_16 : decode cX5_turnLeftOn 16 = .ok (.dup, 1) := by decide +kernel
theorem dX5_turnLeftOn_17 : decode cX5_turnLeftOn 17 = .ok (.getfield 45, 3) := by decide +kernel
theorem dX5_turnLeftOn_20 : decode cX5_turnLeftOn 20 = .ok (.aload_n 1, 1) := by decide +kernel
theorem dX5_turnLeftOn_21 : decode cX5_turnLeftOn 21 = .ok (.getfield 27, 3) := by decide +kernel
theorem dX5_turnLeftOn_24 : decode cX5_turnLeftOn 24 = .ok (.ior, 1) := by decide +kernel
theorem dX5_turnLeftOn_25 : decode cX5_turnLeftOn 25 = .ok (.putfield 45, 3) := by decide +kernel
theorem dX5_turnLeftOn_28 : decode cX5_turnLeftOn 28 = .ok (.return_, 1) := by decide +kernel
theorem dX5_takeBack_0 : decode cX5_takeBack 0 = .ok (.aload_n 0, 1) := by decide +kernel
theorem dX5_takeBack_1 : decode cX5_takeBack 1 = .ok (.dup, 1) := by decide +kernel
theorem dX5_takeBack_2 : decode cX5_takeBack 2 = .ok (.getfield 42, 3) := by decide +kernel
theorem dX5_takeBack_5 : decode cX5_takeBack 5 = .ok (.aload_n 1, 1) := by decide +kernel
theorem dX5_takeBack_6 : decode cX5_takeBack 6 = .ok (.getfield 27, 3) := by decide +kernel
theorem dX5_takeBack_9 : decode cX5_takeBack 9 = .ok (.iconst (-1), 1) := by decide +kernel
theorem dX5_takeBack_10 : decode cX5_takeBack 10 = .ok (.ixor, 1) := by decide +kernel
theorem dX5_takeBack_11 : decode cX5_takeBack 11 = .ok (.iand, 1) := by decide +kernel
theorem dX5_takeBack_12 : decode cX5_takeBack 12 = .ok (.putfield 42, 3) := by decide +kernel
theorem dX5_takeBack_15 : decode cX5_takeBack 15 = .ok (.aload_n 0, 1) := by decide +kernel
theorem dX5_takeBack_16 : decode cX5_takeBack 16 = .ok (.dup, 1) := by decide +kernel
theorem dX5_takeBack_17 : decode cX5_takeBack 17 = .ok (.getfield 45, 3) := by decide +kernel
theorem dX5_takeBack_20 : decode cX5_takeBack 20 = .ok (.aload_n 1, 1) := by decide +kernel
theorem dX5_takeBack_21 : decode cX5_takeBack 21 = .ok (.getfield 27, 3) := by decide +kernel
theorem dX5_takeBack_24 : decode cX5_takeBack 24 = .ok (.iconst (-1), 1) := by decide +kernel
theorem dX5_takeBack_25 : decode cX5_takeBack 25 = .ok (.ixor, 1) := by decide +kernel
theorem dX5_takeBack_26 : decode cX5_takeBack 26 = .ok (.iand, 1) := by decide +kernel
theorem dX5_takeBack_27 : decode cX5_takeBack 27 = .ok (.putfield 45, 3) := by decide +kernel
theorem dX5_takeBack_30 : decode cX5_takeBack 30 = .ok (.return_, 1) := by decide +kernel
theorem dX6_init_0 : decode cX6_init 0 = .ok (.aload_n 0, 1) := by decide +kernel
theorem dX6_init_1 : decode cX6_init 1 = .ok (.invokespecial 3, 3) := by decide +kernel
theorem dX6_init_4 : decode cX6_init 4 = .ok (.aload_n 0, 1) := by decide +kernel
theorem dX6_init_5 : decode cX6_init 5 = .ok (.bipush 8, 2) := by decide +kernel
theorem dX6_init_7 : decode cX6_init 7 = .ok (.newarray .int, 2) := by decide +kernel
theorem dX6_init_9 : decode cX6_init 9 = .ok (.putfield 9, 3) := by decide +kernel
theorem dX6_init_12 : decode cX6_init 12 = .ok (.aload_n 0, 1) := by decide +kernel
theorem dX6_init_13 : decode cX6_init 13 = .ok (.bipush 8, 2) := by decide +kernel
theorem dX6_init_15 : decode cX6_init 15 = .ok (.newarray .int, 2) := by decide +kernel
theorem dX6_init_17 : decode cX6_init 17 = .ok (.putfield 15, 3) := by decide +kernel
theorem dX6_init_20 : decode cX6_init 20 = .ok (.aload_n 0, 1) := by decide +kernel
theorem dX6_init_21 : decode cX6_init 21 = .ok (.bipush 8, 2) := by decide +kernel
theorem dX6_init_23 : decode cX6_init 23 = .ok (.newarray .boolean, 2) := by decide +kernel
theorem dX6_init_25 : decode cX6_init 25 = .ok (.putfield 18, 3) := by decide +kernel
theorem dX6_init_28 : decode cX6_init 28 = .ok (.return_, 1) := by decide +kernel
theorem dX6_add_0 : decode cX6_add 0 = .ok (.aload_n 0, 1) := by decide +kernel
theorem dX6_add_1 : decode cX6_add 1 = .ok (.getfield 22, 3) := by decide +kernel
theorem dX6_add_4 : decode cX6_add 4 = .ok (.bipush 8, 2) := by decide +kernel
theorem dX6_add_6 : decode cX6_add 6 = .ok (.if_icmp .lt 5, 3) := by decide +kernel
theorem dX6_add_9 : decode cX6_add 9 = .ok (.iconst 0, 1) := by decide +kernel
theorem dX6_add_10 : decode cX6_add 10 = .ok (.ireturn, 1) := by decide +kernel
theorem dX6_add_11 : decode cX6_add 11 = .ok (.aload_n 0, 1) := by decide +kernel
theorem dX6_add_12 : decode cX6_add 12 = .ok (.getfield 9, 3) := by decide +kernel
theorem dX6_add_15 : decode cX6_add 15 = .ok (.aload_n 0, 1) := by decide +kernel
theorem dX6_add_16 : decode cX6_add 16 = .ok (.getfield 22, 3) := by decide +kernel
theorem dX6_add_19 : decode cX6_add 19 = .ok (.iload_n 1, 1) := by decide +kernel
theorem dX6_add_20 : decode cX6_add 20 = .ok (.iastore, 1) := by decide +kernel
theorem dX6_add_21 : decode cX6_add 21 = .ok (.aload_n 0, 1) := by decide +kernel
theorem dX6_add_22 : decode cX6_add 22 = .ok (.getfield 15, 3) := by decide +kernel
theorem dX6_add_25 : decode cX6_add 25 = .ok (.aload_n 0, 1) := by decide +kernel
theorem dX6_add_26 : decode cX6_add 26 = .ok (.getfield 22, 3) := by decide +kernel
theorem dX6_add_29 : decode cX6_add 29 = .ok (.iload_n 2, 1) := by decide +kernel
theorem dX6_add_30 : decode cX6_add 30 = .ok (.iastore, 1) := by decide +kernel
theorem dX6_add_31 : decode cX6_add 31 = .ok (.aload_n 0, 1) := by decide +kernel
theorem dX6_add_32 : decode cX6_add 32 = .ok (.getfield 18, 3) := by decide +kernel
theorem dX6_add_35 : decode cX6_add 35 = .ok (.aload_n 0, 1) := by decide +kernel
theorem dX6_add_36 : decode cX6_add 36 = .ok (.getfield 22, 3) := by decide +kernel
theorem dX6_add_39 : decode cX6_add 39 = .ok (.iload_n 3, 1) := by decide +kernel
theorem dX6_add_40 : decode cX6_add 40 = .ok (.bastore, 1) := by decide +kernel
theorem dX6_add_41 : decode cX6_add 41 = .ok (.aload_n 0, 1) := by decide +kernel
theorem dX6_add_42 : decode cX6_add 42 = .ok (.dup, 1) := by decide +kernel
theorem dX6_add_43 : decode cX6_add 43 = .ok (.getfield 22, 3) := by decide +kernel
theorem dX6_add_46 : decode cX6_add 46 = .ok (.iconst 1, 1) := by decide +kernel
theorem dX6_add_47 : decode cX6_add 47 = .ok (.iadd, 1) := by decide +kernel
theorem dX6_add_48 : decode cX6_add 48 = .ok (.putfield 22, 3) := by decide +kernel
theorem dX6_add_51 : decode cX6_add 51 = .ok (.iconst 1, 1) := by decide +kernel
theorem dX6_add_52 : decode cX6_add 52 = .ok (.ireturn, 1) := by decide +kernel
theorem dX6_clear_0 : decode cX6_clear 0 = .ok (.aload_n 0, 1) := by decide +kernel
theorem dX6_clear_1 : decode cX6_clear 1 = .ok (.iconst 0, 1) := by decide +kernel
theorem dX6_clear_2 : decode cX6_clear 2 = .ok (.putfield 22, 3) := by decide +kernel
theorem dX6_clear_5 : decode cX6_clear 5 = .ok (.return_, 1) := by decide +kernel
theorem dX6_copyFrom_0 : decode cX6_copyFrom 0 = .ok (.aload_n 0, 1) := by decide +kernel
theorem dX6_copyFrom_1 : decode cX6_copyFrom 1 = .ok (.aload_n 1, 1) := by decide +kernel
theorem dX6_copyFrom_2 : decode cX6_copyFrom 2 = .ok (.getfield 22, 3) := by decide +kernel
theorem dX6_copyFrom_5 : decode cX6_copyFrom 5 = .ok (.putfield 22, 3) := by decide +kernel
theorem dX6_copyFrom_8 : decode cX6_copyFrom 8 = .ok (.iconst 0, 1) := by decide +kernel
theorem dX6_copyFrom_9 : decode cX6_copyFrom 9 = .ok (.istore_n 2, 1) := by decide +kernel
theorem dX6_copyFrom_10 : decode cX6_copyFrom 10 = .ok (.iload_n 2, 1) := by decide +kernel
theorem dX6_copyFrom_11 : decode cX6_copyFrom 11 = .ok (.bipush 8, 2) := by decide +kernel
theorem dX6_copyFrom_13 : decode cX6_copyFrom 13 = .ok (.if_icmp .ge 45, 3) := by decide +kernel
theorem dX6_copyFrom_16 : decode cX6_copyFrom 16 = .ok (.aload_n 0, 1) := by decide +kernel
theorem dX6_copyFrom_17 : decode cX6_copyFrom 17 = .ok (.getfield 9, 3) := by decide +kernel
theorem dX6_copyFrom_20 : decode cX6_copyFrom 20 = .ok (.iload_n 2, 1) := by decide +kernel
theorem dX6_copyFrom_21 : decode cX6_copyFrom 21 = .ok (.aload_n 1, 1) := by decide +kernel
theorem dX6_copyFrom_22 : decode cX6_copyFrom 22 = .ok (.getfield 9, 3) := by decide +kernel
theorem dX6_copyFrom_25 : decode cX6_copyFrom 25 = .ok (.iload_n 2, 1) := by decide +kernel
theorem dX6_copyFrom_26 : decode cX6_copyFrom 26 = .ok (.iaload, 1) := by decide +kernel
theorem dX6_copyFrom_27 : decode cX6_copyFrom 27 = .ok (.iastore, 1) := by decide +kernel
theorem dX6_copyFrom_28 : decode cX6_copyFrom 28 = .ok (.aload_n 0, 1) := by decide +kernel
theorem dX6_copyFrom_29 : decode cX6_copyFrom 29 = .ok (.getfield 15, 3) := by decide +kernel
theorem dX6_copyFrom_32 : decode cX6_copyFrom 32 = .ok (.iload_n 2, 1) := by decide +kernel
theorem dX6_copyFrom_33 : decode cX6_copyFrom 33 = .ok (.aload_n 1, 1) := by decide +kernel
theorem dX6_copyFrom_34 : decode cX6_copyFrom 34 = .ok (.getfield 15, 3) := by decide +kernel
theorem dX6_copyFrom_37 : decode cX6_copyFrom 37 = .ok (.iload_n 2, 1) := by decide +kernel
theorem dX6_copyFrom_38 : decode cX6_copyFrom 38 = .ok (.iaload, 1) := by decide +kernel
theorem dX6_copyFrom_39 : decode cX6_copyFrom 39 = .ok (.iastore, 1) := by decide +kernel
theorem dX6_copyFrom_40 : decode cX6_copyFrom 40 = .ok (.aload_n 0, 1) := by decide +kernel
theorem dX6_copyFrom_41 : decode cX6_copyFrom 41 = .ok (.getfield 18, 3) := by decide +kernel
theorem dX6_copyFrom_44 : decode cX6_copyFrom 44 = .ok (.iload_n 2, 1) := by decide +kernel
theorem dX6_copyFrom_45 : decode cX6_copyFrom 45 = .ok (.aload_n 1, 1) := by decide +kernel
theorem dX6_copyFrom_46 : decode cX6_copyFrom 46 = .ok (.getfield 18, 3) := by decide +kernel
theorem dX6_copyFrom_49 : decode cX6_copyFrom 49 = .ok (.iload_n 2, 1) := by decide +kernel
theorem dX6_copyFrom_50 : decode cX6_copyFrom 50 = .ok (.baload, 1) := by decide +kernel
theorem dX6_copyFrom_51 : decode cX6_copyFrom 51 = .ok (.bastore, 1) := by decide +kernel
theorem dX6_copyFrom_52 : decode cX6_copyFrom 52 = .ok (.iinc 2 1, 3) := by decide +kernel
theorem dX6_copyFrom_55 : decode cX6_copyFrom 55 = .ok (.goto (-45), 3) := by decide +kernel
theorem dX6_copyFrom_58 : decode cX6_copyFrom 58 = .ok (.return_, 1) := by decide +kernel
theorem dX6_choosiesOf_0 : decode cX6_choosiesOf 0 = .ok (.iconst 0, 1) := by decide +kernel
theorem dX6_choosiesOf_1 : decode cX6_choosiesOf 1 = .ok (.istore_n 3, 1) := by decide +kernel
theorem dX6_choosiesOf_2 : decode cX6_choosiesOf 2 = .ok (.iconst 0, 1) := by decide +kernel
theorem dX6_choosiesOf_3 : decode cX6_choosiesOf 3 = .ok (.istore 4, 2) := by decide +kernel
theorem dX6_choosiesOf_5 : decode cX6_choosiesOf 5 = .ok (.iload 4, 2) := by decide +kernel
theorem dX6_choosiesOf_7 : decode cX6_choosiesOf 7 = .ok (.bipush 9, 2) := by decide +kernel
theorem dX6_choosiesOf_9 : decode cX6_choosiesOf 9 = .ok (.if_icmp .gt 27, 3) := by decide +kernel
theorem dX6_choosiesOf_12 : decode cX6_choosiesOf 12 = .ok (.aload_n 0, 1) := by decide +kernel
theorem dX6_choosiesOf_13 : decode cX6_choosiesOf 13 = .ok (.aload_n 1, 1) := by decide +kernel
theorem dX6_choosiesOf_14 : decode cX6_choosiesOf 14 = .ok (.iload 4, 2) := by decide +kernel
theorem dX6_choosiesOf_16 : decode cX6_choosiesOf 16 = .ok (.aload_n 2, 1) := by decide +kernel
theorem dX6_choosiesOf_17 : decode cX6_choosiesOf 17 = .ok (.invokevirtual 26, 3) := by decide +kernel
theorem dX6_choosiesOf_20 : decode cX6_choosiesOf 20 = .ok (.ifCond .eq 10, 3) := by decide +kernel
theorem dX6_choosiesOf_23 : decode cX6_choosiesOf 23 = .ok (.iload_n 3, 1) := by decide +kernel
theorem dX6_choosiesOf_24 : decode cX6_choosiesOf 24 = .ok (.iconst 1, 1) := by decide +kernel
theorem dX6_choosiesOf_25 : decode cX6_choosiesOf 25 = .ok (.iload 4, 2) := by decide +kernel
theorem dX6_choosiesOf_27 : decode cX6_choosiesOf 27 = .ok (.ishl, 1) := by decide +kernel
theorem dX6_choosiesOf_28 : decode cX6_choosiesOf 28 = .ok (.ior, 1) := by decide +kernel
theorem dX6_choosiesOf_29 : decode cX6_choosiesOf 29 = .ok (.istore_n 3, 1) := by decide +kernel
theorem dX6_choosiesOf_30 : decode cX6_choosiesOf 30 = .ok (.iinc 4 1, 3) := by decide +kernel
theorem dX6_choosiesOf_33 : decode cX6_choosiesOf 33 = .ok (.goto (-28), 3) := by decide +kernel
theorem dX6_choosiesOf_36 : decode cX6_choosiesOf 36 = .ok (.iload_n 3, 1) := by decide +kernel
theorem dX6_choosiesOf_37 : decode cX6_choosiesOf 37 = .ok (.ireturn, 1) := by decide +kernel
theorem dX6_isSoFor_0 : decode cX6_isSoFor 0 = .ok (.iconst 0, 1) := by decide +kernel
theorem dX6_isSoFor_1 : decode cX6_isSoFor 1 = .ok (.istore 4, 2) := by decide +kernel
theorem dX6_isSoFor_3 : decode cX6_isSoFor 3 = .ok (.iload 4, 2) := by decide +kernel
theorem dX6_isSoFor_5 : decode cX6_isSoFor 5 = .ok (.aload_n 0, 1) := by decide +kernel
theorem dX6_isSoFor_6 : decode cX6_isSoFor 6 = .ok (.getfield 22, 3) := by decide +kernel
theorem dX6_isSoFor_9 : decode cX6_isSoFor 9 = .ok (.if_icmp .ge 68, 3) := by decide +kernel
theorem dX6_isSoFor_12 : decode cX6_isSoFor 12 = .ok (.aload_n 0, 1) := by decide +kernel
theorem dX6_isSoFor_13 : decode cX6_isSoFor 13 = .ok (.getfield 15, 3) := by decide +kernel
theorem dX6_isSoFor_16 : decode cX6_isSoFor 16 = .ok (.iload 4, 2) := by decide +kernel
theorem dX6_isSoFor_18 : decode cX6_isSoFor 18 = .ok (.iaload, 1) := by decide +kernel
theorem dX6_isSoFor_19 : decode cX6_isSoFor 19 = .ok (.istore 5, 2) := by decide +kernel
theorem dX6_isSoFor_21 : decode cX6_isSoFor 21 = .ok (.aload_n 0, 1) := by decide +kernel
theorem dX6_isSoFor_22 : decode cX6_isSoFor 22 = .ok (.getfield 9, 3) := by decide +kernel
theorem dX6_isSoFor_25 : decode cX6_isSoFor 25 = .ok (.iload 4, 2) := by decide +kernel
theorem dX6_isSoFor_27 : decode cX6_isSoFor 27 = .ok (.iaload, 1) := by decide +kernel
theorem dX6_isSoFor_28 : decode cX6_isSoFor 28 = .ok (.aload_n 1, 1) := by decide +kernel
theorem dX6_isSoFor_29 : decode cX6_isSoFor 29 = .ok (.getfield 30, 3) := by decide +kernel
theorem dX6_isSoFor_32 : decode cX6_isSoFor 32 = .ok (.if_icmp .ne 39, 3) := by decide +kernel
theorem dX6_isSoFor_35 : decode cX6_isSoFor 35 = .ok (.iload 5, 2) := by decide +kernel
theorem dX6_isSoFor_37 : decode cX6_isSoFor 37 = .ok (.ifCond .lt 34, 3) := by decide +kernel
theorem dX6_isSoFor_40 : decode cX6_isSoFor 40 = .ok (.iload 5, 2) := by decide +kernel
theorem dX6_isSoFor_42 : decode cX6_isSoFor 42 = .ok (.aload_n 3, 1) := by decide +kernel
theorem dX6_isSoFor_43 : decode cX6_isSoFor 43 = .ok (.arraylength, 1) := by decide +kernel
theorem dX6_isSoFor_44 : decode cX6_isSoFor 44 = .ok (.if_icmp .ge 27, 3) := by decide +kernel
theorem dX6_isSoFor_47 : decode cX6_isSoFor 47 = .ok (.aload_n 1, 1) := by decide +kernel
theorem dX6_isSoFor_48 : decode cX6_isSoFor 48 = .ok (.iload_n 2, 1) := by decide +kernel
theorem dX6_isSoFor_49 : decode cX6_isSoFor 49 = .ok (.aload_n 3, 1) := by decide +kernel
theorem dX6_isSoFor_50 : decode cX6_isSoFor 50 = .ok (.iload 5, 2) := by decide +kernel
theorem dX6_isSoFor_52 : decode cX6_isSoFor 52 = .ok (.aaload, 1) := by decide +kernel
theorem dX6_isSoFor_53 : decode cX6_isSoFor 53 = .ok (.invokevirtual 35, 3) := by decide +kernel
theorem dX6_isSoFor_56 : decode cX6_isSoFor 56 = .ok (.invokevirtual 39, 3) := by decide +kernel
theorem dX6_isSoFor_59 : decode cX6_isSoFor 59 = .ok (.aload_n 0, 1) := by decide +kernel
theorem dX6_isSoFor_60 : decode cX6_isSoFor 60 = .ok (.getfield 18, 3) := by decide +kernel
theorem dX6_isSoFor_63 : decode cX6_isSoFor 63 = .ok (.iload 4, 2) := by decide +kernel
theorem dX6_isSoFor_65 : decode cX6_isSoFor 65 = .ok (.baload, 1) := by decide +kernel
theorem dX6_isSoFor_66 : decode cX6_isSoFor 66 = .ok (.if_icmp .eq 5, 3) := by decide +kernel
theorem dX6_isSoFor_69 : decode cX6_isSoFor 69 = .ok (.iconst 0, 1) := by decide +kernel
theorem dX6_isSoFor_70 : decode cX6_isSoFor 70 = .ok (.ireturn, 1) := by decide +kernel
theorem dX6_isSoFor_71 : decode cX6_isSoFor 71 = .ok (.iinc 4 1, 3) := by decide +kernel
theorem dX6_isSoFor_74 : decode cX6_isSoFor 74 = .ok (.goto (-71), 3) := by decide +kernel
theorem dX6_isSoFor_77 : decode cX6_isSoFor 77 = .ok (.iconst 1, 1) := by decide +kernel
theorem dX6_isSoFor_78 : decode cX6_isSoFor 78 = .ok (.ireturn, 1) := by decide +kernel
theorem dX7_init_0 : decode cX7_init 0 = .ok (.aload_n 0, 1) := by decide +kernel
theorem dX7_init_1 : decode cX7_init 1 = .ok (.invokespecial 3, 3) := by decide +kernel
theorem dX7_init_4 : decode cX7_init 4 = .ok (.aload_n 0, 1) := by decide +kernel
theorem dX7_init_5 : decode cX7_init 5 = .ok (.new 9, 3) := by decide +kernel
theorem dX7_init_8 : decode cX7_init 8 = .ok (.dup, 1) := by decide +kernel
theorem dX7_init_9 : decode cX7_init 9 = .ok (.invokespecial 11, 3) := by decide +kernel
theorem dX7_init_12 : decode cX7_init 12 = .ok (.putfield 12, 3) := by decide +kernel
theorem dX7_init_15 : decode cX7_init 15 = .ok (.aload_n 0, 1) := by decide +kernel
theorem dX7_init_16 : decode cX7_init 16 = .ok (.bipush 8, 2) := by decide +kernel
theorem dX7_init_18 : decode cX7_init 18 = .ok (.newarray .int, 2) := by decide +kernel
theorem dX7_init_20 : decode cX7_init 20 = .ok (.putfield 18, 3) := by decide +kernel
theorem dX7_init_23 : decode cX7_init 23 = .ok (.return_, 1) := by decide +kernel
theorem dX7_isDays_0 : decode cX7_isDays 0 = .ok (.iload_n 0, 1) := by decide +kernel
theorem dX7_isDays_1 : decode cX7_isDays 1 = .ok (.iconst 1, 1) := by decide +kernel
theorem dX7_isDays_2 : decode cX7_isDays 2 = .ok (.bipush 8, 2) := by decide +kernel
theorem dX7_isDays_4 : decode cX7_isDays 4 = .ok (.invokestatic 22, 3) := by decide +kernel
theorem dX7_isDays_7 : decode cX7_isDays 7 = .ok (.ireturn, 1) := by decide +kernel
theorem dX7_isOrder_0 : decode cX7_isOrder 0 = .ok (.iload_n 0, 1) := by decide +kernel
theorem dX7_isOrder_1 : decode cX7_isOrder 1 = .ok (.iconst 0, 1) := by decide +kernel
theorem dX7_isOrder_2 : decode cX7_isOrder 2 = .ok (.iconst 1, 1) := by decide +kernel
theorem dX7_isOrder_3 : decode cX7_isOrder 3 = .ok (.invokestatic 22, 3) := by decide +kernel
theorem dX7_isOrder_6 : decode cX7_isOrder 6 = .ok (.ireturn, 1) := by decide +kernel
theorem dX7_bestLimit_0 : decode cX7_bestLimit 0 = .ok (.iconst 1, 1) := by decide +kernel
theorem dX7_bestLimit_1 : decode cX7_bestLimit 1 = .ok (.istore 4, 2) := by decide +kernel
theorem dX7_bestLimit_3 : decode cX7_bestLimit 3 = .ok (.aload_n 0, 1) := by decide +kernel
theorem dX7_bestLimit_4 : decode cX7_bestLimit 4 = .ok (.aload_n 1, 1) := by decide +kernel
theorem dX7_bestLimit_5 : decode cX7_bestLimit 5 = .ok (.iload_n 2, 1) := by decide +kernel
theorem dX7_bestLimit_6 : decode cX7_bestLimit 6 = .ok (.iconst 1, 1) := by decide +kernel
theorem dX7_bestLimit_7 : decode cX7_bestLimit 7 = .ok (.iload_n 3, 1) := by decide +kernel
theorem dX7_bestLimit_8 : decode cX7_bestLimit 8 = .ok (.invokevirtual 26, 3) := by decide +kernel
theorem dX7_bestLimit_11 : decode cX7_bestLimit 11 = .ok (.istore 5, 2) := by decide +kernel
theorem dX7_bestLimit_13 : decode cX7_bestLimit 13 = .ok (.iconst 2, 1) := by decide +kernel
theorem dX7_bestLimit_14 : decode cX7_bestLimit 14 = .ok (.istore 6, 2) := by decide +kernel
theorem dX7_bestLimit_16 : decode cX7_bestLimit 16 = .ok (.iload 6, 2) := by decide +kernel
theorem dX7_bestLimit_18 : decode cX7_bestLimit 18 = .ok (.bipush 9, 2) := by decide +kernel
theorem dX7_bestLimit_20 : decode cX7_bestLimit 20 = .ok (.if_icmp .gt 35, 3) := by decide +kernel
theorem dX7_bestLimit_23 : decode cX7_bestLimit 23 = .ok (.aload_n 0, 1) := by decide +kernel
theorem dX7_bestLimit_24 : decode cX7_bestLimit 24 = .ok (.aload_n 1, 1) := by decide +kernel
theorem dX7_bestLimit_25 : decode cX7_bestLimit 25 = .ok (.iload_n 2, 1) := by decide +kernel
theorem dX7_bestLimit_26 : decode cX7_bestLimit 26 = .ok (.iload 6, 2) := by decide +kernel
theorem dX7_bestLimit_28 : decode cX7_bestLimit 28 = .ok (.iload_n 3, 1) := by decide +kernel
theorem dX7_bestLimit_29 : decode cX7_bestLimit 29 = .ok (.invokevirtual 26, 3) := by decide +kernel
theorem dX7_bestLimit_32 : decode cX7_bestLimit 32 = .ok (.istore 7, 2) := by decide +kernel
theorem dX7_bestLimit_34 : decode cX7_bestLimit 34 = .ok (.iload 7, 2) := by decide +kernel
theorem dX7_bestLimit_36 : decode cX7_bestLimit 36 = .ok (.iload 5, 2) := by decide +kernel
theorem dX7_bestLimit_38 : decode cX7_bestLimit 38 = .ok (.if_icmp .le 11, 3) := by decide +kernel
theorem dX7_bestLimit_41 : decode cX7_bestLimit 41 = .ok (.iload 7, 2) := by decide +kernel
theorem dX7_bestLimit_43 : decode cX7_bestLimit 43 = .ok (.istore 5, 2) := by decide +kernel
theorem dX7_bestLimit_45 : decode cX7_bestLimit 45 = .ok (.iload 6, 2) := by decide +kernel
theorem dX7_bestLimit_47 : decode cX7_bestLimit 47 = .ok (.istore 4, 2) := by decide +kernel
theorem dX7_bestLimit_49 : decode cX7_bestLimit 49 = .ok (.iinc 6 1, 3) := by decide +kernel
theorem dX7_bestLimit_52 : decode cX7_bestLimit 52 = .ok (.goto (-36), 3) := by decide +kernel
theorem dX7_bestLimit_55 : decode cX7_bestLimit 55 = .ok (.iload 4, 2) := by decide +kernel
theorem dX7_bestLimit_57 : decode cX7_bestLimit 57 = .ok (.ireturn, 1) := by decide +kernel
theorem dX7_matchesAfter_0 : decode cX7_matchesAfter 0 = .ok (.aload_n 0, 1) := by decide +kernel
theorem dX7_matchesAfter_1 : decode cX7_matchesAfter 1 = .ok (.getfield 12, 3) := by decide +kernel
theorem dX7_matchesAfter_4 : decode cX7_matchesAfter 4 = .ok (.aload_n 1, 1) := by decide +kernel
theorem dX7_matchesAfter_5 : decode cX7_matchesAfter 5 = .ok (.invokevirtual 30, 3) := by decide +kernel
theorem dX7_matchesAfter_8 : decode cX7_matchesAfter 8 = .ok (.aload_n 0, 1) := by decide +kernel
theorem dX7_matchesAfter_9 : decode cX7_matchesAfter 9 = .ok (.getfield 12, 3) := by decide +kernel
theorem dX7_matchesAfter_12 : decode cX7_matchesAfter 12 = .ok (.invokevirtual 34, 3) := by decide +kernel
theorem dX7_matchesAfter_15 : decode cX7_matchesAfter 15 = .ok (.aload_n 0, 1) := by decide +kernel
theorem dX7_matchesAfter_16 : decode cX7_matchesAfter 16 = .ok (.getfield 12, 3) := by decide +kernel
theorem dX7_matchesAfter_19 : decode cX7_matchesAfter 19 = .ok (.iload_n 3, 1) := by decide +kernel
theorem dX7_matchesAfter_20 : decode cX7_matchesAfter 20 = .ok (.putfield 37, 3) := by decide +kernel
theorem dX7_matchesAfter_23 : decode cX7_matchesAfter 23 = .ok (.aload_n 0, 1) := by decide +kernel
theorem dX7_matchesAfter_24 : decode cX7_matchesAfter 24 = .ok (.getfield 12, 3) := by decide +kernel
theorem dX7_matchesAfter_27 : decode cX7_matchesAfter 27 = .ok (.aload_n 0, 1) := by decide +kernel
theorem dX7_matchesAfter_28 : decode cX7_matchesAfter 28 = .ok (.getfield 18, 3) := by decide +kernel
theorem dX7_matchesAfter_31 : decode cX7_matchesAfter 31 = .ok (.iload 4, 2) := by decide +kernel
theorem dX7_matchesAfter_33 : decode cX7_matchesAfter 33 = .ok (.iconst 1, 1) := by decide +kernel
theorem dX7_matchesAfter_34 : decode cX7_matchesAfter 34 = .ok (.if_icmp .ne 7, 3) := by decide +kernel
theorem dX7_matchesAfter_37 : decode cX7_matchesAfter 37 = .ok (.iconst 1, 1) := by decide +kernel
theorem dX7_matchesAfter_38 : decode cX7_matchesAfter 38 = .ok (.goto 4, 3) := by decide +kernel
theorem dX7_matchesAfter_41 : decode cX7_matchesAfter 41 = .ok (.iconst 0, 1) := by decide +kernel
theorem dX7_matchesAfter_42 : decode cX7_matchesAfter 42 = .ok (.invokevirtual 41, 3) := by decide +kernel
theorem dX7_matchesAfter_45 : decode cX7_matchesAfter 45 = .ok (.iconst 0, 1) := by decide +kernel
theorem dX7_matchesAfter_46 : decode cX7_matchesAfter 46 = .ok (.istore 5, 2) := by decide +kernel
theorem dX7_matchesAfter_48 : decode cX7_matchesAfter 48 = .ok (.iload 5, 2) := by decide +kernel
theorem dX7_matchesAfter_50 : decode cX7_matchesAfter 50 = .ok (.iload_n 2, 1) := by decide +kernel
theorem dX7_matchesAfter_51 : decode cX7_matchesAfter 51 = .ok (.if_icmp .ge 51, 3) := by decide +kernel
theorem dX7_matchesAfter_54 : decode cX7_matchesAfter 54 = .ok (.aload_n 0, 1) := by decide +kernel
theorem dX7_matchesAfter_55 : decode cX7_matchesAfter 55 = .ok (.getfield 12, 3) := by decide +kernel
theorem dX7_matchesAfter_58 : decode cX7_matchesAfter 58 = .ok (.invokevirtual 45, 3) := by decide +kernel
theorem dX7_matchesAfter_61 : decode cX7_matchesAfter 61 = .ok (.iconst 0, 1) := by decide +kernel
theorem dX7_matchesAfter_62 : decode cX7_matchesAfter 62 = .ok (.istore 6, 2) := by decide +kernel
theorem dX7_matchesAfter_64 : decode cX7_matchesAfter 64 = .ok (.iload 6, 2) := by decide +kernel
theorem dX7_matchesAfter_66 : decode cX7_matchesAfter 66 = .ok (.aload_n 0, 1) := by decide +kernel
theorem dX7_matchesAfter_67 : decode cX7_matchesAfter 67 = .ok (.getfield 12, 3) := by decide +kernel
theorem dX7_matchesAfter_70 : decode cX7_matchesAfter 70 = .ok (.getfield 48, 3) := by decide +kernel
theorem dX7_matchesAfter_73 : decode cX7_matchesAfter 73 = .ok (.if_icmp .ge 23, 3) := by decide +kernel
theorem dX7_matchesAfter_76 : decode cX7_matchesAfter 76 = .ok (.aload_n 0, 1) := by decide +kernel
theorem dX7_matchesAfter_77 : decode cX7_matchesAfter 77 = .ok (.aload_n 0, 1) := by decide +kernel
theorem dX7_matchesAfter_78 : decode cX7_matchesAfter 78 = .ok (.getfield 12, 3) := by decide +kernel
theorem dX7_matchesAfter_81 : decode cX7_matchesAfter 81 = .ok (.getfield 51, 3) := by decide +kernel
theorem dX7_matchesAfter_84 : decode cX7_matchesAfter 84 = .ok (.iload 6, 2) := by decide +kernel
theorem dX7_matchesAfter_86 : decode cX7_matchesAfter 86 = .ok (.aaload, 1) := by decide +kernel
theorem dX7_matchesAfter_87 : decode cX7_matchesAfter 87 = .ok (.invokevirtual 55, 3) := by decide +kernel
theorem dX7_matchesAfter_90 : decode cX7_matchesAfter 90 = .ok (.iinc 6 1, 3) := by decide +kernel
theorem dX7_matchesAfter_93 : decode cX7_matchesAfter 93 = .ok (.goto (-29), 3) := by decide +kernel
theorem dX7_matchesAfter_96 : decode cX7_matchesAfter 96 = .ok (.iinc 5 1, 3) := by decide +kernel
theorem dX7_matchesAfter_99 : decode cX7_matchesAfter 99 = .ok (.goto (-51), 3) := by decide +kernel
theorem dX7_matchesAfter_102 : decode cX7_matchesAfter 102 = .ok (.aload_n 0, 1) := by decide +kernel
theorem dX7_matchesAfter_103 : decode cX7_matchesAfter 103 = .ok (.getfield 12, 3) := by decide +kernel
theorem dX7_matchesAfter_106 : decode cX7_matchesAfter 106 = .ok (.invokevirtual 59, 3) := by decide +kernel
theorem dX7_matchesAfter_109 : decode cX7_matchesAfter 109 = .ok (.ireturn, 1) := by decide +kernel
theorem dX7_showNextTo_0 : decode cX7_showNextTo 0 = .ok (.iconst 0, 1) := by decide +kernel
theorem dX7_showNextTo_1 : decode cX7_showNextTo 1 = .ok (.istore_n 2, 1) := by decide +kernel
theorem dX7_showNextTo_2 : decode cX7_showNextTo 2 = .ok (.iconst 0, 1) := by decide +kernel
theorem dX7_showNextTo_3 : decode cX7_showNextTo 3 = .ok (.istore_n 3, 1) := by decide +kernel
theorem dX7_showNextTo_4 : decode cX7_showNextTo 4 = .ok (.iload_n 3, 1) := by decide +kernel
theorem dX7_showNextTo_5 : decode cX7_showNextTo 5 = .ok (.aload_n 0, 1) := by decide +kernel
theorem dX7_showNextTo_6 : decode cX7_showNextTo 6 = .ok (.getfield 12, 3) := by decide +kernel
theorem dX7_showNextTo_9 : decode cX7_showNextTo 9 = .ok (.getfield 48, 3) := by decide +kernel
theorem dX7_showNextTo_12 : decode cX7_showNextTo 12 = .ok (.if_icmp .ge 53, 3) := by decide +kernel
theorem dX7_showNextTo_15 : decode cX7_showNextTo 15 = .ok (.iload_n 2, 1) := by decide +kernel
theorem dX7_showNextTo_16 : decode cX7_showNextTo 16 = .ok (.iconst 3, 1) := by decide +kernel
theorem dX7_showNextTo_17 : decode cX7_showNextTo 17 = .ok (.if_icmp .ge 48, 3) := by decide +kernel
theorem dX7_showNextTo_20 : decode cX7_showNextTo 20 = .ok (.aload_n 0, 1) := by decide +kernel
theorem dX7_showNextTo_21 : decode cX7_showNextTo 21 = .ok (.getfield 12, 3) := by decide +kernel
theorem dX7_showNextTo_24 : decode cX7_showNextTo 24 = .ok (.getfield 51, 3) := by decide +kernel
theorem dX7_showNextTo_27 : decode cX7_showNextTo 27 = .ok (.aload_n 0, 1) := by decide +kernel
theorem dX7_showNextTo_28 : decode cX7_showNextTo 28 = .ok (.getfield 18, 3) := by decide +kernel
theorem dX7_showNextTo_31 : decode cX7_showNextTo 31 = .ok (.iload_n 3, 1) := by decide +kernel
theorem dX7_showNextTo_32 : decode cX7_showNextTo 32 = .ok (.iaload, 1) := by decide +kernel
theorem dX7_showNextTo_33 : decode cX7_showNextTo 33 = .ok (.aaload, 1) := by decide +kernel
theorem dX7_showNextTo_34 : decode cX7_showNextTo 34 = .ok (.astore 4, 2) := by decide +kernel
theorem dX7_showNextTo_36 : decode cX7_showNextTo 36 = .ok (.aload_n 1, 1) := by decide +kernel
theorem dX7_showNextTo_37 : decode cX7_showNextTo 37 = .ok (.aload 4, 2) := by decide +kernel
theorem dX7_showNextTo_39 : decode cX7_showNextTo 39 = .ok (.invokevirtual 63, 3) := by decide +kernel
theorem dX7_showNextTo_42 : decode cX7_showNextTo 42 = .ok (.ifCond .eq 17, 3) := by decide +kernel
theorem dX7_showNextTo_45 : decode cX7_showNextTo 45 = .ok (.aload_n 0, 1) := by decide +kernel
theorem dX7_showNextTo_46 : decode cX7_showNextTo 46 = .ok (.getfield 12, 3) := by decide +kernel
theorem dX7_showNextTo_49 : decode cX7_showNextTo 49 = .ok (.aload_n 1, 1) := by decide +kernel
theorem dX7_showNextTo_50 : decode cX7_showNextTo 50 = .ok (.aload 4, 2) := by decide +kernel
theorem dX7_showNextTo_52 : decode cX7_showNextTo 52 = .ok (.invokevirtual 69, 3) := by decide +kernel
theorem dX7_showNextTo_55 : decode cX7_showNextTo 55 = .ok (.pop, 1) := by decide +kernel
theorem dX7_showNextTo_56 : decode cX7_showNextTo 56 = .ok (.iinc 2 1, 3) := by decide +kernel
theorem dX7_showNextTo_59 : decode cX7_showNextTo 59 = .ok (.iinc 3 1, 3) := by decide +kernel
theorem dX7_showNextTo_62 : decode cX7_showNextTo 62 = .ok (.goto (-58), 3) := by decide +kernel
theorem dX7_showNextTo_65 : decode cX7_showNextTo 65 = .ok (.return_, 1) := by decide +kernel
theorem dX8_isOthers_0 : decode cX8_isOthers 0 = .ok (.iload_n 0, 1) := by decide +kernel
theorem dX8_isOthers_1 : decode cX8_isOthers 1 = .ok (.iconst 2, 1) := by decide +kernel
theorem dX8_isOthers_2 : decode cX8_isOthers 2 = .ok (.bipush 8, 2) := by decide +kernel
theorem dX8_isOthers_4 : decode cX8_isOthers 4 = .ok (.invokestatic 9, 3) := by decide +kernel
theorem dX8_isOthers_7 : decode cX8_isOthers 7 = .ok (.ireturn, 1) := by decide +kernel
theorem dX8_partsOfAll_0 : decode cX8_partsOfAll 0 = .ok (.iload_n 0, 1) := by decide +kernel
theorem dX8_partsOfAll_1 : decode cX8_partsOfAll 1 = .ok (.sipush 420, 3) := by decide +kernel
theorem dX8_partsOfAll_4 : decode cX8_partsOfAll 4 = .ok (.imul, 1) := by decide +kernel
theorem dX8_partsOfAll_5 : decode cX8_partsOfAll 5 = .ok (.ireturn, 1) := by decide +kernel
theorem dX8_partsOfBest_0 : decode cX8_partsOfBest 0 = .ok (.iload_n 1, 1) := by decide +kernel
theorem dX8_partsOfBest_1 : decode cX8_partsOfBest 1 = .ok (.ifCond .ne 7, 3) := by decide +kernel
theorem dX8_partsOfBest_4 : decode cX8_partsOfBest 4 = .ok (.sipush 420, 3) := by decide +kernel
theorem dX8_partsOfBest_7 : decode cX8_partsOfBest 7 = .ok (.ireturn, 1) := by decide +kernel
theorem dX8_partsOfBest_8 : decode cX8_partsOfBest 8 = .ok (.iconst 0, 1) := by decide +kernel
theorem dX8_partsOfBest_9 : decode cX8_partsOfBest 9 = .ok (.istore_n 2, 1) := by decide +kernel
theorem dX8_partsOfBest_10 : decode cX8_partsOfBest 10 = .ok (.iconst 1, 1) := by decide +kernel
theorem dX8_partsOfBest_11 : decode cX8_partsOfBest 11 = .ok (.istore_n 3, 1) := by decide +kernel
theorem dX8_partsOfBest_12 : decode cX8_partsOfBest 12 = .ok (.iload_n 3, 1) := by decide +kernel
theorem dX8_partsOfBest_13 : decode cX8_partsOfBest 13 = .ok (.iload_n 0, 1) := by decide +kernel
theorem dX8_partsOfBest_14 : decode cX8_partsOfBest 14 = .ok (.if_icmp .ge 28, 3) := by decide +kernel
theorem dX8_partsOfBest_17 : decode cX8_partsOfBest 17 = .ok (.iload_n 2, 1) := by decide +kernel
theorem dX8_partsOfBest_18 : decode cX8_partsOfBest 18 = .ok (.iload_n 3, 1) := by decide +kernel
theorem dX8_partsOfBest_19 : decode cX8_partsOfBest 19 = .ok (.iload_n 1, 1) := by decide +kernel
theorem dX8_partsOfBest_20 : decode cX8_partsOfBest 20 = .ok (.if_icmp .lt 13, 3) := by decide +kernel
theorem dX8_partsOfBest_23 : decode cX8_partsOfBest 23 = .ok (.iload_n 1, 1) := by decide +kernel
theorem dX8_partsOfBest_24 : decode cX8_partsOfBest 24 = .ok (.sipush 420, 3) := by decide +kernel
theorem dX8_partsOfBest_27 : decode cX8_partsOfBest 27 = .ok (.imul, 1) := by decide +kernel
theorem dX8_partsOfBest_28 : decode cX8_partsOfBest 28 = .ok (.iload_n 3, 1) := by decide +kernel
theorem dX8_partsOfBest_29 : decode cX8_partsOfBest 29 = .ok (.idiv, 1) := by decide +kernel
theorem dX8_partsOfBest_30 : decode cX8_partsOfBest 30 = .ok (.goto 4, 3) := by decide +kernel
theorem dX8_partsOfBest_33 : decode cX8_partsOfBest 33 = .ok (.iconst 0, 1) := by decide +kernel
theorem dX8_partsOfBest_34 : decode cX8_partsOfBest 34 = .ok (.iadd, 1) := by decide +kernel
theorem dX8_partsOfBest_35 : decode cX8_partsOfBest 35 = .ok (.istore_n 2, 1) := by decide +kernel
theorem dX8_partsOfBest_36 : decode cX8_partsOfBest 36 = .ok (.iinc 3 1, 3) := by decide +kernel
theorem dX8_partsOfBest_39 : decode cX8_partsOfBest 39 = .ok (.goto (-27), 3) := by decide +kernel
theorem dX8_partsOfBest_42 : decode cX8_partsOfBest 42 = .ok (.iload_n 2, 1) := by decide +kernel
theorem dX8_partsOfBest_43 : decode cX8_partsOfBest 43 = .ok (.ireturn, 1) := by decide +kernel
theorem dX8_likeliest_0 : decode cX8_likeliest 0 = .ok (.iconst 0, 1) := by decide +kernel
theorem dX8_likeliest_1 : decode cX8_likeliest 1 = .ok (.istore_n 1, 1) := by decide +kernel
theorem dX8_likeliest_2 : decode cX8_likeliest 2 = .ok (.iconst 1, 1) := by decide +kernel
theorem dX8_likeliest_3 : decode cX8_likeliest 3 = .ok (.istore_n 2, 1) := by decide +kernel
theorem dX8_likeliest_4 : decode cX8_likeliest 4 = .ok (.iload_n 2, 1) := by decide +kernel
theorem dX8_likeliest_5 : decode cX8_likeliest 5 = .ok (.iload_n 0, 1) := by decide +kernel
theorem dX8_likeliest_6 : decode cX8_likeliest 6 = .ok (.if_icmp .ge 24, 3) := by decide +kernel
theorem dX8_likeliest_9 : decode cX8_likeliest 9 = .ok (.iload_n 0, 1) := by decide +kernel
theorem dX8_likeliest_10 : decode cX8_likeliest 10 = .ok (.iload_n 2, 1) := by decide +kernel
theorem dX8_likeliest_11 : decode cX8_likeliest 11 = .ok (.invokestatic 15, 3) := by decide +kernel
theorem dX8_likeliest_14 : decode cX8_likeliest 14 = .ok (.iload_n 0, 1) := by decide +kernel
theorem dX8_likeliest_15 : decode cX8_likeliest 15 = .ok (.iload_n 1, 1) := by decide +kernel
theorem dX8_likeliest_16 : decode cX8_likeliest 16 = .ok (.invokestatic 15, 3) := by decide +kernel
theorem dX8_likeliest_19 : decode cX8_likeliest 19 = .ok (.if_icmp .le 5, 3) := by decide +kernel
theorem dX8_likeliest_22 : decode cX8_likeliest 22 = .ok (.iload_n 2, 1) := by decide +kernel
theorem dX8_likeliest_23 : decode cX8_likeliest 23 = .ok (.istore_n 1, 1) := by decide +kernel
theorem dX8_likeliest_24 : decode cX8_likeliest 24 = .ok (.iinc 2 1, 3) := by decide +kernel
theorem dX8_likeliest_27 : decode cX8_likeliest 27 = .ok (.goto (-23), 3) := by decide +kernel
theorem dX8_likeliest_30 : decode cX8_likeliest 30 = .ok (.iload_n 1, 1) := by decide +kernel
theorem dX8_likeliest_31 : decode cX8_likeliest 31 = .ok (.ireturn, 1) := by decide +kernel
theorem dX8_greatestDivisor_0 : decode cX8_greatestDivisor 0 = .ok (.iload_n 1, 1) := by decide +kernel
theorem dX8_greatestDivisor_1 : decode cX8_greatestDivisor 1 = .ok (.istore_n 2, 1) := by decide +kernel
theorem dX8_greatestDivisor_2 : decode cX8_greatestDivisor 2 = .ok (.iload_n 0, 1) := by decide +kernel
theorem dX8_greatestDivisor_3 : decode cX8_greatestDivisor 3 = .ok (.istore_n 3, 1) := by decide +kernel
theorem dX8_greatestDivisor_4 : decode cX8_greatestDivisor 4 = .ok (.iconst 0, 1) := by decide +kernel
theorem dX8_greatestDivisor_5 : decode cX8_greatestDivisor 5 = .ok (.istore 4, 2) := by decide +kernel
theorem dX8_greatestDivisor_7 : decode cX8_greatestDivisor 7 = .ok (.iload 4, 2) := by decide +kernel
theorem dX8_greatestDivisor_9 : decode cX8_greatestDivisor 9 = .ok (.bipush 32, 2) := by decide +kernel
theorem dX8_greatestDivisor_11 : decode cX8_greatestDivisor 11 = .ok (.if_icmp .ge 23, 3) := by decide +kernel
theorem dX8_greatestDivisor_14 : decode cX8_greatestDivisor 14 = .ok (.iload_n 3, 1) := by decide +kernel
theorem dX8_greatestDivisor_15 : decode cX8_greatestDivisor 15 = .ok (.ifCond .eq 19, 3) := by decide +kernel
theorem dX8_greatestDivisor_18 : decode cX8_greatestDivisor 18 = .ok (.iload_n 2, 1) := by decide +kernel
theorem dX8_greatestDivisor_19 : decode cX8_greatestDivisor 19 = .ok (.iload_n 3, 1) := by decide +kernel
theorem dX8_greatestDivisor_20 : decode cX8_greatestDivisor 20 = .ok (.irem, 1) := by decide +kernel
theorem dX8_greatestDivisor_21 : decode cX8_greatestDivisor 21 = .ok (.istore 5, 2) := by decide +kernel
theorem dX8_greatestDivisor_23 : decode cX8_greatestDivisor 23 = .ok (.iload_n 3, 1) := by decide +kernel
theorem dX8_greatestDivisor_24 : decode cX8_greatestDivisor 24 = .ok (.istore_n 2, 1) := by decide +kernel
theorem dX8_greatestDivisor_25 : decode cX8_greatestDivisor 25 = .ok (.iload 5, 2) := by decide +kernel
theorem dX8_greatestDivisor_27 : decode cX8_greatestDivisor 27 = .ok (.istore_n 3, 1) := by decide +kernel
theorem dX8_greatestDivisor_28 : decode cX8_greatestDivisor 28 = .ok (.iinc 4 1, 3) := by decide +kernel
theorem dX8_greatestDivisor_31 : decode cX8_greatestDivisor 31 = .ok (.goto (-24), 3) := by decide +kernel
theorem dX8_greatestDivisor_34 : decode cX8_greatestDivisor 34 = .ok (.iload_n 2, 1) := by decide +kernel
theorem dX8_greatestDivisor_35 : decode cX8_greatestDivisor 35 = .ok (.ifCond .ne 7, 3) := by decide +kernel
theorem dX8_greatestDivisor_38 : decode cX8_greatestDivisor 38 = .ok (.iconst 1, 1) := by decide +kernel
theorem dX8_greatestDivisor_39 : decode cX8_greatestDivisor 39 = .ok (.goto 4, 3) := by decide +kernel
theorem dX8_greatestDivisor_42 : decode cX8_greatestDivisor 42 = .ok (.iload_n 2, 1) := by decide +kernel
theorem dX8_greatestDivisor_43 : decode cX8_greatestDivisor 43 = .ok (.ireturn, 1) := by decide +kernel
theorem dX9_init_0 : decode cX9_init 0 = .ok (.aload_n 0, 1) := by decide +kernel
theorem dX9_init_1 : decode cX9_init 1 = .ok (.invokespecial 3, 3) := by decide +kernel
theorem dX9_init_4 : decode cX9_init 4 = .ok (.aload_n 0, 1) := by decide +kernel
theorem dX9_init_5 : decode cX9_init 5 = .ok (.new 9, 3) := by decide +kernel
theorem dX9_init_8 : decode cX9_init 8 = .ok (.dup, 1) := by decide +kernel
theorem dX9_init_9 : decode cX9_init 9 = .ok (.invokespecial 11, 3) := by decide +kernel
theorem dX9_init_12 : decode cX9_init 12 = .ok (.putfield 12, 3) := by decide +kernel
theorem dX9_init_15 : decode cX9_init 15 = .ok (.aload_n 0, 1) := by decide +kernel
theorem dX9_init_16 : decode cX9_init 16 = .ok (.new 16, 3) := by decide +kernel
theorem dX9_init_19 : decode cX9_init 19 = .ok (.dup, 1) := by decide +kernel
theorem dX9_init_20 : decode cX9_init 20 = .ok (.invokespecial 18, 3) := by decide +kernel
theorem dX9_init_23 : decode cX9_init 23 = .ok (.putfield 19, 3) := by decide +kernel
theorem dX9_init_26 : decode cX9_init 26 = .ok (.aload_n 0, 1) := by decide +kernel
theorem dX9_init_27 : decode cX9_init 27 = .ok (.new 16, 3) := by decide +kernel
theorem dX9_init_30 : decode cX9_init 30 = .ok (.dup, 1) := by decide +kernel
theorem dX9_init_31 : decode cX9_init 31 = .ok (.invokespecial 18, 3) := by decide +kernel
theorem dX9_init_34 : decode cX9_init 34 = .ok (.putfield 23, 3) := by decide +kernel
theorem dX9_init_37 : decode cX9_init 37 = .ok (.aload_n 0, 1) := by decide +kernel
theorem dX9_init_38 : decode cX9_init 38 = .ok (.new 26, 3) := by decide +kernel
theorem dX9_init_41 : decode cX9_init 41 = .ok (.dup, 1) := by decide +kernel
theorem dX9_init_42 : decode cX9_init 42 = .ok (.invokespecial 28, 3) := by decide +kernel
theorem dX9_init_45 : decode cX9_init 45 = .ok (.putfield 29, 3) := by decide +kernel
theorem dX9_init_48 : decode cX9_init 48 = .ok (.aload_n 0, 1) := by decide +kernel
theorem dX9_init_49 : decode cX9_init 49 = .ok (.new 33, 3) := by decide +kernel
theorem dX9_init_52 : decode cX9_init 52 = .ok (.dup, 1) := by decide +kernel
theorem dX9_init_53 : decode cX9_init 53 = .ok (.invokespecial 35, 3) := by decide +kernel
theorem dX9_init_56 : decode cX9_init 56 = .ok (.putfield 36, 3) := by decide +kernel
theorem dX9_init_59 : decode cX9_init 59 = .ok (.return_, 1) := by decide +kernel
theorem dX9_letter_0 : decode cX9_letter 0 = .ok (.iload_n 1, 1) := by decide +kernel
theorem dX9_letter_1 : decode cX9_letter 1 = .ok (.bipush 32, 2) := by decide +kernel
theorem dX9_letter_3 : decode cX9_letter 3 = .ok (.bipush 126, 2) := by decide +kernel
theorem dX9_letter_5 : decode cX9_letter 5 = .ok (.invokestatic 40, 3) := by decide +kernel
theorem dX9_letter_8 : decode cX9_letter 8 = .ok (.ifCond .ne 6, 3) := by decide +kernel
theorem dX9_letter_11 : decode cX9_letter 11 = .ok (.bipush (-102), 2) := by decide +kernel
theorem dX9_letter_13 : decode cX9_letter 13 = .ok (.ireturn, 1) := by decide +kernel
theorem dX9_letter_14 : decode cX9_letter 14 = .ok (.aload_n 0, 1) := by decide +kernel
theorem dX9_letter_15 : decode cX9_letter 15 = .ok (.getfield 12, 3) := by decide +kernel
theorem dX9_letter_18 : decode cX9_letter 18 = .ok (.iload_n 1, 1) := by decide +kernel
theorem dX9_letter_19 : decode cX9_letter 19 = .ok (.invokevirtual 44, 3) := by decide +kernel
theorem dX9_letter_22 : decode cX9_letter 22 = .ok (.ifCond .eq 13, 3) := by decide +kernel
theorem dX9_letter_25 : decode cX9_letter 25 = .ok (.aload_n 0, 1) := by decide +kernel
theorem dX9_letter_26 : decode cX9_letter 26 = .ok (.getfield 12, 3) := by decide +kernel
theorem dX9_letter_29 : decode cX9_letter 29 = .ok (.getfield 48, 3) := by decide +kernel
theorem dX9_letter_32 : decode cX9_letter 32 = .ok (.goto 5, 3) := by decide +kernel
theorem dX9_letter_35 : decode cX9_letter 35 = .ok (.bipush (-104), 2) := by decide +kernel
theorem dX9_letter_37 : decode cX9_letter 37 = .ok (.ireturn, 1) := by decide +kernel
theorem dX9_blank_0 : decode cX9_blank 0 = .ok (.aload_n 0, 1) := by decide +kernel
theorem dX9_blank_1 : decode cX9_blank 1 = .ok (.getfield 12, 3) := by decide +kernel
theorem dX9_blank_4 : decode cX9_blank 4 = .ok (.getfield 48, 3) := by decide +kernel
theorem dX9_blank_7 : decode cX9_blank 7 = .ok (.istore_n 1, 1) := by decide +kernel
theorem dX9_blank_8 : decode cX9_blank 8 = .ok (.aload_n 0, 1) := by decide +kernel
theorem dX9_blank_9 : decode cX9_blank 9 = .ok (.getfield 12, 3) := by decide +kernel
theorem dX9_blank_12 : decode cX9_blank 12 = .ok (.invokevirtual 52, 3) := by decide +kernel
theorem dX9_blank_15 : decode cX9_blank 15 = .ok (.iload_n 1, 1) := by decide +kernel
theorem dX9_blank_16 : decode cX9_blank 16 = .ok (.ireturn, 1) := by decide +kernel
theorem dX9_fault_0 : decode cX9_fault 0 = .ok (.aload_n 0, 1) := by decide +kernel
theorem dX9_fault_1 : decode cX9_fault 1 = .ok (.getfield 12, 3) := by decide +kernel
theorem dX9_fault_4 : decode cX9_fault 4 = .ok (.invokevirtual 55, 3) := by decide +kernel
theorem dX9_fault_7 : decode cX9_fault 7 = .ok (.ireturn, 1) := by decide +kernel
theorem dX9_sea_0 : decode cX9_sea 0 = .ok (.aload_n 0, 1) := by decide +kernel
theorem dX9_sea_1 : decode cX9_sea 1 = .ok (.getfield 12, 3) := by decide +kernel
theorem dX9_sea_4 : decode cX9_sea 4 = .ok (.invokevirtual 59, 3) := by decide +kernel
theorem dX9_sea_7 : decode cX9_sea 7 = .ok (.ifCond .ne 6, 3) := by decide +kernel
theorem dX9_sea_10 : decode cX9_sea 10 = .ok (.bipush (-103), 2) := by decide +kernel
theorem dX9_sea_12 : decode cX9_sea 12 = .ok (.ireturn, 1) := by decide +kernel
theorem dX9_sea_13 : decode cX9_sea 13 = .ok (.aload_n 0, 1) := by decide +kernel
theorem dX9_sea_14 : decode cX9_sea 14 = .ok (.getfield 19, 3) := by decide +kernel
theorem dX9_sea_17 : decode cX9_sea 17 = .ok (.aload_n 0, 1) := by decide +kernel
theorem dX9_sea_18 : decode cX9_sea 18 = .ok (.getfield 12, 3) := by decide +kernel
theorem dX9_sea_21 : decode cX9_sea 21 = .ok (.invokevirtual 63, 3) := by decide +kernel
theorem dX9_sea_24 : decode cX9_sea 24 = .ok (.aload_n 0, 1) := by decide +kernel
theorem dX9_sea_25 : decode cX9_sea 25 = .ok (.getfield 12, 3) := by decide +kernel
theorem dX9_sea_28 : decode cX9_sea 28 = .ok (.invokevirtual 52, 3) := by decide +kernel
theorem dX9_sea_31 : decode cX9_sea 31 = .ok (.aload_n 0, 1) := by decide +kernel
theorem dX9_sea_32 : decode cX9_sea 32 = .ok (.iconst 0, 1) := by decide +kernel
theorem dX9_sea_33 : decode cX9_sea 33 = .ok (.putfield 67, 3) := by decide +kernel
theorem dX9_sea_36 : decode cX9_sea 36 = .ok (.aload_n 0, 1) := by decide +kernel
theorem dX9_sea_37 : decode cX9_sea 37 = .ok (.dup, 1) := by decide +kernel
theorem dX9_sea_38 : decode cX9_sea 38 = .ok (.getfield 71, 3) := by decide +kernel
theorem dX9_sea_41 : decode cX9_sea 41 = .ok (.iconst 1, 1) := by decide +kernel
theorem dX9_sea_42 : decode cX9_sea 42 = .ok (.iadd, 1) := by decide +kernel
theorem dX9_sea_43 : decode cX9_sea 43 = .ok (.putfield 71, 3) := by decide +kernel
theorem dX9_sea_46 : decode cX9_sea 46 = .ok (.aload_n 0, 1) := by decide +kernel
theorem dX9_sea_47 : decode cX9_sea 47 = .ok (.getfield 19, 3) := by decide +kernel
theorem dX9_sea_50 : decode cX9_sea 50 = .ok (.getfield 74, 3) := by decide +kernel
theorem dX9_sea_53 : decode cX9_sea 53 = .ok (.ireturn, 1) := by decide +kernel
theorem dX9_person_0 : decode cX9_person 0 = .ok (.aload_n 0, 1) := by decide +kernel
theorem dX9_person_1 : decode cX9_person 1 = .ok (.getfield 19, 3) := by decide +kernel
theorem dX9_person_4 : decode cX9_person 4 = .ok (.iload_n 1, 1) := by decide +kernel
theorem dX9_person_5 : decode cX9_person 5 = .ok (.invokevirtual 77, 3) := by decide +kernel
theorem dX9_person_8 : decode cX9_person 8 = .ok (.ifCond .ne 6, 3) := by decide +kernel
theorem dX9_person_11 : decode cX9_person 11 = .ok (.bipush (-101), 2) := by decide +kernel
theorem dX9_person_13 : decode cX9_person 13 = .ok (.ireturn, 1) := by decide +kernel
theorem dX9_person_14 : decode cX9_person 14 = .ok (.aload_n 0, 1) := by decide +kernel
theorem dX9_person_15 : decode cX9_person 15 = .ok (.getfield 19, 3) := by decide +kernel
theorem dX9_person_18 : decode cX9_person 18 = .ok (.aload_n 0, 1) := by decide +kernel
theorem dX9_person_19 : decode cX9_person 19 = .ok (.getfield 19, 3) := by decide +kernel
theorem dX9_person_22 : decode cX9_person 22 = .ok (.getfield 80, 3) := by decide +kernel
theorem dX9_person_25 : decode cX9_person 25 = .ok (.iload_n 1, 1) := by decide +kernel
theorem dX9_person_26 : decode cX9_person 26 = .ok (.aaload, 1) := by decide +kernel
theorem dX9_person_27 : decode cX9_person 27 = .ok (.iload_n 2, 1) := by decide +kernel
theorem dX9_person_28 : decode cX9_person 28 = .ok (.invokevirtual 84, 3) := by decide +kernel
theorem dX9_person_31 : decode cX9_person 31 = .ok (.ireturn, 1) := by decide +kernel
theorem dX9_as_0 : decode cX9_as 0 = .ok (.aload_n 0, 1) := by decide +kernel
theorem dX9_as_1 : decode cX9_as 1 = .ok (.getfield 19, 3) := by decide +kernel
theorem dX9_as_4 : decode cX9_as 4 = .ok (.iload_n 1, 1) := by decide +kernel
theorem dX9_as_5 : decode cX9_as 5 = .ok (.invokevirtual 77, 3) := by decide +kernel
theorem dX9_as_8 : decode cX9_as 8 = .ok (.ifCond .ne 6, 3) := by decide +kernel
theorem dX9_as_11 : decode cX9_as 11 = .ok (.bipush (-101), 2) := by decide +kernel
theorem dX9_as_13 : decode cX9_as 13 = .ok (.ireturn, 1) := by decide +kernel
theorem dX9_as_14 : decode cX9_as 14 = .ok (.iload_n 2, 1) := by decide +kernel
theorem dX9_as_15 : decode cX9_as 15 = .ok (.invokestatic 88, 3) := by decide +kernel
theorem dX9_as_18 : decode cX9_as 18 = .ok (.ifCond .ne 6, 3) := by decide +kernel
theorem dX9_as_21 : decode cX9_as 21 = .ok (.bipush (-102), 2) := by decide +kernel
theorem dX9_as_23 : decode cX9_as 23 = .ok (.ireturn, 1) := by decide +kernel
theorem dX9_as_24 : decode cX9_as 24 = .ok (.aload_n 0, 1) := by decide +kernel
theorem dX9_as_25 : decode cX9_as 25 = .ok (.getfield 19, 3) := by decide +kernel
theorem dX9_as_28 : decode cX9_as 28 = .ok (.getfield 80, 3) := by decide +kernel
theorem dX9_as_31 : decode cX9_as 31 = .ok (.iload_n 1, 1) := by decide +kernel
theorem dX9_as_32 : decode cX9_as 32 = .ok (.aaload, 1) := by decide +kernel
theorem dX9_as_33 : decode cX9_as 33 = .ok (.getfield 93, 3) := by decide +kernel
theorem dX9_as_36 : decode cX9_as 36 = .ok (.iload_n 2, 1) := by decide +kernel
theorem dX9_as_37 : decode cX9_as 37 = .ok (.invokevirtual 99, 3) := by decide +kernel
theorem dX9_as_40 : decode cX9_as 40 = .ok (.ifCond .eq 7, 3) := by decide +kernel
theorem dX9_as_43 : decode cX9_as 43 = .ok (.iload_n 1, 1) := by decide +kernel
theorem dX9_as_44 : decode cX9_as 44 = .ok (.goto 4, 3) := by decide +kernel
theorem dX9_as_47 : decode cX9_as 47 = .ok (.iconst (-1), 1) := by decide +kernel
theorem dX9_as_48 : decode cX9_as 48 = .ok (.ireturn, 1) := by decide +kernel
theorem dX9_choose_0 : decode cX9_choose 0 = .ok (.aload_n 0, 1) := by decide +kernel
theorem dX9_choose_1 : decode cX9_choose 1 = .ok (.getfield 19, 3) := by decide +kernel
theorem dX9_choose_4 : decode cX9_choose 4 = .ok (.iload_n 1, 1) := by decide +kernel
theorem dX9_choose_5 : decode cX9_choose 5 = .ok (.invokevirtual 77, 3) := by decide +kernel
theorem dX9_choose_8 : decode cX9_choose 8 = .ok (.ifCond .ne 6, 3) := by decide +kernel
theorem dX9_choose_11 : decode cX9_choose 11 = .ok (.bipush (-101), 2) := by decide +kernel
theorem dX9_choose_13 : decode cX9_choose 13 = .ok (.ireturn, 1) := by decide +kernel
theorem dX9_choose_14 : decode cX9_choose 14 = .ok (.iload_n 2, 1) := by decide +kernel
theorem dX9_choose_15 : decode cX9_choose 15 = .ok (.iconst 0, 1) := by decide +kernel
theorem dX9_choose_16 : decode cX9_choose 16 = .ok (.bipush 9, 2) := by decide +kernel
theorem dX9_choose_18 : decode cX9_choose 18 = .ok (.invokestatic 40, 3) := by decide +kernel
theorem dX9_choose_21 : decode cX9_choose 21 = .ok (.ifCond .ne 6, 3) := by decide +kernel
theorem dX9_choose_24 : decode cX9_choose 24 = .ok (.bipush (-102), 2) := by decide +kernel
theorem dX9_choose_26 : decode cX9_choose 26 = .ok (.ireturn, 1) := by decide +kernel
theorem dX9_choose_27 : decode cX9_choose 27 = .ok (.aload_n 0, 1) := by decide +kernel
theorem dX9_choose_28 : decode cX9_choose 28 = .ok (.getfield 19, 3) := by decide +kernel
theorem dX9_choose_31 : decode cX9_choose 31 = .ok (.getfield 80, 3) := by decide +kernel
theorem dX9_choose_34 : decode cX9_choose 34 = .ok (.iload_n 1, 1) := by decide +kernel
theorem dX9_choose_35 : decode cX9_choose 35 = .ok (.aaload, 1) := by decide +kernel
theorem dX9_choose_36 : decode cX9_choose 36 = .ok (.getfield 102, 3) := by decide +kernel
theorem dX9_choose_39 : decode cX9_choose 39 = .ok (.istore_n 3, 1) := by decide +kernel
theorem dX9_choose_40 : decode cX9_choose 40 = .ok (.aload_n 0, 1) := by decide +kernel
theorem dX9_choose_41 : decode cX9_choose 41 = .ok (.getfield 19, 3) := by decide +kernel
theorem dX9_choose_44 : decode cX9_choose 44 = .ok (.getfield 80, 3) := by decide +kernel
theorem dX9_choose_47 : decode cX9_choose 47 = .ok (.iload_n 1, 1) := by decide +kernel
theorem dX9_choose_48 : decode cX9_choose 48 = .ok (.aaload, 1) := by decide +kernel
theorem dX9_choose_49 : decode cX9_choose 49 = .ok (.iload_n 2, 1) := by decide +kernel
theorem dX9_choose_50 : decode cX9_choose 50 = .ok (.putfield 102, 3) := by decide +kernel
theorem dX9_choose_53 : decode cX9_choose 53 = .ok (.iload_n 3, 1) := by decide +kernel
theorem dX9_choose_54 : decode cX9_choose 54 = .ok (.ireturn, 1) := by decide +kernel
theorem dX9_paint_0 : decode cX9_paint 0 = .ok (.aload_n 0, 1) := by decide +kernel
theorem dX9_paint_1 : decode cX9_paint 1 = .ok (.getfield 19, 3) := by decide +kernel
theorem dX9_paint_4 : decode cX9_paint 4 = .ok (.iload_n 1, 1) := by decide +kernel
theorem dX9_paint_5 : decode cX9_paint 5 = .ok (.invokevirtual 77, 3) := by decide +kernel
theorem dX9_paint_8 : decode cX9_paint 8 = .ok (.ifCond .ne 6, 3) := by decide +kernel
theorem dX9_paint_11 : decode cX9_paint 11 = .ok (.bipush (-101), 2) := by decide +kernel
theorem dX9_paint_13 : decode cX9_paint 13 = .ok (.ireturn, 1) := by decide +kernel
theorem dX9_paint_14 : decode cX9_paint 14 = .ok (.iload_n 2, 1) := by decide +kernel
theorem dX9_paint_15 : decode cX9_paint 15 = .ok (.iconst 0, 1) := by decide +kernel
theorem dX9_paint_16 : decode cX9_paint 16 = .ok (.iconst 3, 1) := by decide +kernel
theorem dX9_paint_17 : decode cX9_paint 17 = .ok (.invokestatic 40, 3) := by decide +kernel
theorem dX9_paint_20 : decode cX9_paint 20 = .ok (.ifCond .ne 6, 3) := by decide +kernel
theorem dX9_paint_23 : decode cX9_paint 23 = .ok (.bipush (-102), 2) := by decide +kernel
theorem dX9_paint_25 : decode cX9_paint 25 = .ok (.ireturn, 1) := by decide +kernel
theorem dX9_paint_26 : decode cX9_paint 26 = .ok (.aload_n 0, 1) := by decide +kernel
theorem dX9_paint_27 : decode cX9_paint 27 = .ok (.getfield 19, 3) := by decide +kernel
theorem dX9_paint_30 : decode cX9_paint 30 = .ok (.getfield 80, 3) := by decide +kernel
theorem dX9_paint_33 : decode cX9_paint 33 = .ok (.iload_n 1, 1) := by decide +kernel
theorem dX9_paint_34 : decode cX9_paint 34 = .ok (.aaload, 1) := by decide +kernel
theorem dX9_paint_35 : decode cX9_paint 35 = .ok (.getfield 105, 3) := by decide +kernel
theorem dX9_paint_38 : decode cX9_paint 38 = .ok (.istore_n 3, 1) := by decide +kernel
theorem dX9_paint_39 : decode cX9_paint 39 = .ok (.aload_n 0, 1) := by decide +kernel
theorem dX9_paint_40 : decode cX9_paint 40 = .ok (.getfield 19, 3) := by decide +kernel
theorem dX9_paint_43 : decode cX9_paint 43 = .ok (.getfield 80, 3) := by decide +kernel
theorem dX9_paint_46 : decode cX9_paint 46 = .ok (.iload_n 1, 1) := by decide +kernel
theorem dX9_paint_47 : decode cX9_paint 47 = .ok (.aaload, 1) := by decide +kernel
theorem dX9_paint_48 : decode cX9_paint 48 = .ok (.iload_n 2, 1) := by decide +kernel
theorem dX9_paint_49 : decode cX9_paint 49 = .ok (.putfield 105, 3) := by decide +kernel
theorem dX9_paint_52 : decode cX9_paint 52 = .ok (.iload_n 3, 1) := by decide +kernel
theorem dX9_paint_53 : decode cX9_paint 53 = .ok (.ireturn, 1) := by decide +kernel
theorem dX9_limit_0 : decode cX9_limit 0 = .ok (.iload_n 1, 1) := by decide +kernel
theorem dX9_limit_1 : decode cX9_limit 1 = .ok (.invokestatic 108, 3) := by decide +kernel
theorem dX9_limit_4 : decode cX9_limit 4 = .ok (.ifCond .ne 6, 3) := by decide +kernel
theorem dX9_limit_7 : decode cX9_limit 7 = .ok (.bipush (-102), 2) := by decide +kernel
theorem dX9_limit_9 : decode cX9_limit 9 = .ok (.ireturn, 1) := by decide +kernel
theorem dX9_limit_10 : decode cX9_limit 10 = .ok (.aload_n 0, 1) := by decide +kernel
theorem dX9_limit_11 : decode cX9_limit 11 = .ok (.getfield 19, 3) := by decide +kernel
theorem dX9_limit_14 : decode cX9_limit 14 = .ok (.invokevirtual 111, 3) := by decide +kernel
theorem dX9_limit_17 : decode cX9_limit 17 = .ok (.ifCond .eq 6, 3) := by decide +kernel
theorem dX9_limit_20 : decode cX9_limit 20 = .ok (.bipush (-103), 2) := by decide +kernel
theorem dX9_limit_22 : decode cX9_limit 22 = .ok (.ireturn, 1) := by decide +kernel
theorem dX9_limit_23 : decode cX9_limit 23 = .ok (.aload_n 0, 1) := by decide +kernel
theorem dX9_limit_24 : decode cX9_limit 24 = .ok (.getfield 19, 3) := by decide +kernel
theorem dX9_limit_27 : decode cX9_limit 27 = .ok (.getfield 114, 3) := by decide +kernel
theorem dX9_limit_30 : decode cX9_limit 30 = .ok (.istore_n 2, 1) := by decide +kernel
theorem dX9_limit_31 : decode cX9_limit 31 = .ok (.aload_n 0, 1) := by decide +kernel
theorem dX9_limit_32 : decode cX9_limit 32 = .ok (.getfield 19, 3) := by decide +kernel
theorem dX9_limit_35 : decode cX9_limit 35 = .ok (.iload_n 1, 1) := by decide +kernel
theorem dX9_limit_36 : decode cX9_limit 36 = .ok (.putfield 114, 3) := by decide +kernel
theorem dX9_limit_39 : decode cX9_limit 39 = .ok (.iload_n 2, 1) := by decide +kernel
theorem dX9_limit_40 : decode cX9_limit 40 = .ok (.ireturn, 1) := by decide +kernel
theorem dX9_show_0 : decode cX9_show 0 = .ok (.aload_n 0, 1) := by decide +kernel
theorem dX9_show_1 : decode cX9_show 1 = .ok (.getfield 19, 3) := by decide +kernel
theorem dX9_show_4 : decode cX9_show 4 = .ok (.iload_n 1, 1) := by decide +kernel
theorem dX9_show_5 : decode cX9_show 5 = .ok (.invokevirtual 77, 3) := by decide +kernel
theorem dX9_show_8 : decode cX9_show 8 = .ok (.ifCond .eq 14, 3) := by decide +kernel
theorem dX9_show_11 : decode cX9_show 11 = .ok (.aload_n 0, 1) := by decide +kernel
theorem dX9_show_12 : decode cX9_show 12 = .ok (.getfield 19, 3) := by decide +kernel
