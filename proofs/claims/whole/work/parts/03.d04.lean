theorem dX10_isLasting_37 : decode cX10_isLasting 37 = .ok (.iload_n 2, 1) := by decide +kernel
theorem dX10_isLasting_38 : decode cX10_isLasting 38 = .ok (.iload_n 3, 1) := by decide +kernel
theorem dX10_isLasting_39 : decode cX10_isLasting 39 = .ok (.invokevirtual 243, 3) := by decide +kernel
theorem dX10_isLasting_42 : decode cX10_isLasting 42 = .ok (.ifCond .ne 7, 3) := by decide +kernel
theorem dX10_isLasting_45 : decode cX10_isLasting 45 = .ok (.iconst 1, 1) := by decide +kernel
theorem dX10_isLasting_46 : decode cX10_isLasting 46 = .ok (.goto 4, 3) := by decide +kernel
theorem dX10_isLasting_49 : decode cX10_isLasting 49 = .ok (.iconst 0, 1) := by decide +kernel
theorem dX10_isLasting_50 : decode cX10_isLasting 50 = .ok (.istore_n 1, 1) := by decide +kernel
theorem dX10_isLasting_51 : decode cX10_isLasting 51 = .ok (.iinc 3 1, 3) := by decide +kernel
theorem dX10_isLasting_54 : decode cX10_isLasting 54 = .ok (.goto (-30), 3) := by decide +kernel
theorem dX10_isLasting_57 : decode cX10_isLasting 57 = .ok (.iinc 2 1, 3) := by decide +kernel
theorem dX10_isLasting_60 : decode cX10_isLasting 60 = .ok (.goto (-53), 3) := by decide +kernel
theorem dX10_isLasting_63 : decode cX10_isLasting 63 = .ok (.iload_n 1, 1) := by decide +kernel
theorem dX10_isLasting_64 : decode cX10_isLasting 64 = .ok (.ireturn, 1) := by decide +kernel
theorem dX10_nextRow_0 : decode cX10_nextRow 0 = .ok (.aload_n 0, 1) := by decide +kernel
theorem dX10_nextRow_1 : decode cX10_nextRow 1 = .ok (.getfield 137, 3) := by decide +kernel
theorem dX10_nextRow_4 : decode cX10_nextRow 4 = .ok (.iconst 1, 1) := by decide +kernel
theorem dX10_nextRow_5 : decode cX10_nextRow 5 = .ok (.isub, 1) := by decide +kernel
theorem dX10_nextRow_6 : decode cX10_nextRow 6 = .ok (.istore_n 1, 1) := by decide +kernel
theorem dX10_nextRow_7 : decode cX10_nextRow 7 = .ok (.iload_n 1, 1) := by decide +kernel
theorem dX10_nextRow_8 : decode cX10_nextRow 8 = .ok (.ifCond .lt 29, 3) := by decide +kernel
theorem dX10_nextRow_11 : decode cX10_nextRow 11 = .ok (.aload_n 0, 1) := by decide +kernel
theorem dX10_nextRow_12 : decode cX10_nextRow 12 = .ok (.getfield 50, 3) := by decide +kernel
theorem dX10_nextRow_15 : decode cX10_nextRow 15 = .ok (.iload_n 1, 1) := by decide +kernel
theorem dX10_nextRow_16 : decode cX10_nextRow 16 = .ok (.iaload, 1) := by decide +kernel
theorem dX10_nextRow_17 : decode cX10_nextRow 17 = .ok (.aload_n 0, 1) := by decide +kernel
theorem dX10_nextRow_18 : decode cX10_nextRow 18 = .ok (.getfield 140, 3) := by decide +kernel
theorem dX10_nextRow_21 : decode cX10_nextRow 21 = .ok (.if_icmp .ne 16, 3) := by decide +kernel
theorem dX10_nextRow_24 : decode cX10_nextRow 24 = .ok (.aload_n 0, 1) := by decide +kernel
theorem dX10_nextRow_25 : decode cX10_nextRow 25 = .ok (.getfield 50, 3) := by decide +kernel
theorem dX10_nextRow_28 : decode cX10_nextRow 28 = .ok (.iload_n 1, 1) := by decide +kernel
theorem dX10_nextRow_29 : decode cX10_nextRow 29 = .ok (.iconst 0, 1) := by decide +kernel
theorem dX10_nextRow_30 : decode cX10_nextRow 30 = .ok (.iastore, 1) := by decide +kernel
theorem dX10_nextRow_31 : decode cX10_nextRow 31 = .ok (.iinc 1 (-1), 3) := by decide +kernel
theorem dX10_nextRow_34 : decode cX10_nextRow 34 = .ok (.goto (-27), 3) := by decide +kernel
theorem dX10_nextRow_37 : decode cX10_nextRow 37 = .ok (.iload_n 1, 1) := by decide +kernel
theorem dX10_nextRow_38 : decode cX10_nextRow 38 = .ok (.ifCond .ge 5, 3) := by decide +kernel
theorem dX10_nextRow_41 : decode cX10_nextRow 41 = .ok (.iconst 0, 1) := by decide +kernel
theorem dX10_nextRow_42 : decode cX10_nextRow 42 = .ok (.ireturn, 1) := by decide +kernel
theorem dX10_nextRow_43 : decode cX10_nextRow 43 = .ok (.aload_n 0, 1) := by decide +kernel
theorem dX10_nextRow_44 : decode cX10_nextRow 44 = .ok (.getfield 50, 3) := by decide +kernel
theorem dX10_nextRow_47 : decode cX10_nextRow 47 = .ok (.iload_n 1, 1) := by decide +kernel
theorem dX10_nextRow_48 : decode cX10_nextRow 48 = .ok (.aload_n 0, 1) := by decide +kernel
theorem dX10_nextRow_49 : decode cX10_nextRow 49 = .ok (.getfield 50, 3) := by decide +kernel
theorem dX10_nextRow_52 : decode cX10_nextRow 52 = .ok (.iload_n 1, 1) := by decide +kernel
theorem dX10_nextRow_53 : decode cX10_nextRow 53 = .ok (.iaload, 1) := by decide +kernel
theorem dX10_nextRow_54 : decode cX10_nextRow 54 = .ok (.ifCond .ne 12, 3) := by decide +kernel
theorem dX10_nextRow_57 : decode cX10_nextRow 57 = .ok (.aload_n 0, 1) := by decide +kernel
theorem dX10_nextRow_58 : decode cX10_nextRow 58 = .ok (.getfield 137, 3) := by decide +kernel
theorem dX10_nextRow_61 : decode cX10_nextRow 61 = .ok (.iconst 1, 1) := by decide +kernel
theorem dX10_nextRow_62 : decode cX10_nextRow 62 = .ok (.iadd, 1) := by decide +kernel
theorem dX10_nextRow_63 : decode cX10_nextRow 63 = .ok (.goto 11, 3) := by decide +kernel
theorem dX10_nextRow_66 : decode cX10_nextRow 66 = .ok (.aload_n 0, 1) := by decide +kernel
theorem dX10_nextRow_67 : decode cX10_nextRow 67 = .ok (.getfield 50, 3) := by decide +kernel
theorem dX10_nextRow_70 : decode cX10_nextRow 70 = .ok (.iload_n 1, 1) := by decide +kernel
theorem dX10_nextRow_71 : decode cX10_nextRow 71 = .ok (.iaload, 1) := by decide +kernel
theorem dX10_nextRow_72 : decode cX10_nextRow 72 = .ok (.iconst 1, 1) := by decide +kernel
theorem dX10_nextRow_73 : decode cX10_nextRow 73 = .ok (.iadd, 1) := by decide +kernel
theorem dX10_nextRow_74 : decode cX10_nextRow 74 = .ok (.iastore, 1) := by decide +kernel
theorem dX10_nextRow_75 : decode cX10_nextRow 75 = .ok (.iconst 1, 1) := by decide +kernel
theorem dX10_nextRow_76 : decode cX10_nextRow 76 = .ok (.ireturn, 1) := by decide +kernel
theorem dX10_layLasting_0 : decode cX10_layLasting 0 = .ok (.aload_n 0, 1) := by decide +kernel
theorem dX10_layLasting_1 : decode cX10_layLasting 1 = .ok (.iconst 0, 1) := by decide +kernel
theorem dX10_layLasting_2 : decode cX10_layLasting 2 = .ok (.putfield 246, 3) := by decide +kernel
theorem dX10_layLasting_5 : decode cX10_layLasting 5 = .ok (.iconst 0, 1) := by decide +kernel
theorem dX10_layLasting_6 : decode cX10_layLasting 6 = .ok (.istore_n 1, 1) := by decide +kernel
theorem dX10_layLasting_7 : decode cX10_layLasting 7 = .ok (.iload_n 1, 1) := by decide +kernel
theorem dX10_layLasting_8 : decode cX10_layLasting 8 = .ok (.iconst 4, 1) := by decide +kernel
theorem dX10_layLasting_9 : decode cX10_layLasting 9 = .ok (.if_icmp .ge 23, 3) := by decide +kernel
theorem dX10_layLasting_12 : decode cX10_layLasting 12 = .ok (.aload_n 0, 1) := by decide +kernel
theorem dX10_layLasting_13 : decode cX10_layLasting 13 = .ok (.getfield 50, 3) := by decide +kernel
theorem dX10_layLasting_16 : decode cX10_layLasting 16 = .ok (.iload_n 1, 1) := by decide +kernel
theorem dX10_layLasting_17 : decode cX10_layLasting 17 = .ok (.iconst 0, 1) := by decide +kernel
theorem dX10_layLasting_18 : decode cX10_layLasting 18 = .ok (.iastore, 1) := by decide +kernel
theorem dX10_layLasting_19 : decode cX10_layLasting 19 = .ok (.aload_n 0, 1) := by decide +kernel
theorem dX10_layLasting_20 : decode cX10_layLasting 20 = .ok (.getfield 53, 3) := by decide +kernel
theorem dX10_layLasting_23 : decode cX10_layLasting 23 = .ok (.iload_n 1, 1) := by decide +kernel
theorem dX10_layLasting_24 : decode cX10_layLasting 24 = .ok (.iconst 0, 1) := by decide +kernel
theorem dX10_layLasting_25 : decode cX10_layLasting 25 = .ok (.iastore, 1) := by decide +kernel
theorem dX10_layLasting_26 : decode cX10_layLasting 26 = .ok (.iinc 1 1, 3) := by decide +kernel
theorem dX10_layLasting_29 : decode cX10_layLasting 29 = .ok (.goto (-22), 3) := by decide +kernel
theorem dX10_layLasting_32 : decode cX10_layLasting 32 = .ok (.iconst 1, 1) := by decide +kernel
theorem dX10_layLasting_33 : decode cX10_layLasting 33 = .ok (.istore_n 1, 1) := by decide +kernel
theorem dX10_layLasting_34 : decode cX10_layLasting 34 = .ok (.iload_n 1, 1) := by decide +kernel
theorem dX10_layLasting_35 : decode cX10_layLasting 35 = .ok (.ifCond .eq 73, 3) := by decide +kernel
theorem dX10_layLasting_38 : decode cX10_layLasting 38 = .ok (.aload_n 0, 1) := by decide +kernel
theorem dX10_layLasting_39 : decode cX10_layLasting 39 = .ok (.invokevirtual 249, 3) := by decide +kernel
theorem dX10_layLasting_42 : decode cX10_layLasting 42 = .ok (.ifCond .eq 58, 3) := by decide +kernel
theorem dX10_layLasting_45 : decode cX10_layLasting 45 = .ok (.iconst 0, 1) := by decide +kernel
theorem dX10_layLasting_46 : decode cX10_layLasting 46 = .ok (.istore_n 2, 1) := by decide +kernel
theorem dX10_layLasting_47 : decode cX10_layLasting 47 = .ok (.iload_n 2, 1) := by decide +kernel
theorem dX10_layLasting_48 : decode cX10_layLasting 48 = .ok (.aload_n 0, 1) := by decide +kernel
theorem dX10_layLasting_49 : decode cX10_layLasting 49 = .ok (.getfield 137, 3) := by decide +kernel
theorem dX10_layLasting_52 : decode cX10_layLasting 52 = .ok (.if_icmp .ge 38, 3) := by decide +kernel
theorem dX10_layLasting_55 : decode cX10_layLasting 55 = .ok (.aload_n 0, 1) := by decide +kernel
theorem dX10_layLasting_56 : decode cX10_layLasting 56 = .ok (.getfield 53, 3) := by decide +kernel
theorem dX10_layLasting_59 : decode cX10_layLasting 59 = .ok (.iload_n 2, 1) := by decide +kernel
theorem dX10_layLasting_60 : decode cX10_layLasting 60 = .ok (.aload_n 0, 1) := by decide +kernel
theorem dX10_layLasting_61 : decode cX10_layLasting 61 = .ok (.iload_n 2, 1) := by decide +kernel
theorem dX10_layLasting_62 : decode cX10_layLasting 62 = .ok (.invokevirtual 252, 3) := by decide +kernel
theorem dX10_layLasting_65 : decode cX10_layLasting 65 = .ok (.ifCond .eq 12, 3) := by decide +kernel
theorem dX10_layLasting_68 : decode cX10_layLasting 68 = .ok (.aload_n 0, 1) := by decide +kernel
theorem dX10_layLasting_69 : decode cX10_layLasting 69 = .ok (.getfield 50, 3) := by decide +kernel
theorem dX10_layLasting_72 : decode cX10_layLasting 72 = .ok (.iload_n 2, 1) := by decide +kernel
theorem dX10_layLasting_73 : decode cX10_layLasting 73 = .ok (.iaload, 1) := by decide +kernel
theorem dX10_layLasting_74 : decode cX10_layLasting 74 = .ok (.goto 9, 3) := by decide +kernel
theorem dX10_layLasting_77 : decode cX10_layLasting 77 = .ok (.aload_n 0, 1) := by decide +kernel
theorem dX10_layLasting_78 : decode cX10_layLasting 78 = .ok (.getfield 53, 3) := by decide +kernel
theorem dX10_layLasting_81 : decode cX10_layLasting 81 = .ok (.iload_n 2, 1) := by decide +kernel
theorem dX10_layLasting_82 : decode cX10_layLasting 82 = .ok (.iaload, 1) := by decide +kernel
theorem dX10_layLasting_83 : decode cX10_layLasting 83 = .ok (.iastore, 1) := by decide +kernel
theorem dX10_layLasting_84 : decode cX10_layLasting 84 = .ok (.iinc 2 1, 3) := by decide +kernel
theorem dX10_layLasting_87 : decode cX10_layLasting 87 = .ok (.goto (-40), 3) := by decide +kernel
theorem dX10_layLasting_90 : decode cX10_layLasting 90 = .ok (.aload_n 0, 1) := by decide +kernel
theorem dX10_layLasting_91 : decode cX10_layLasting 91 = .ok (.dup, 1) := by decide +kernel
theorem dX10_layLasting_92 : decode cX10_layLasting 92 = .ok (.getfield 246, 3) := by decide +kernel
theorem dX10_layLasting_95 : decode cX10_layLasting 95 = .ok (.iconst 1, 1) := by decide +kernel
theorem dX10_layLasting_96 : decode cX10_layLasting 96 = .ok (.iadd, 1) := by decide +kernel
theorem dX10_layLasting_97 : decode cX10_layLasting 97 = .ok (.putfield 246, 3) := by decide +kernel
theorem dX10_layLasting_100 : decode cX10_layLasting 100 = .ok (.aload_n 0, 1) := by decide +kernel
theorem dX10_layLasting_101 : decode cX10_layLasting 101 = .ok (.invokevirtual 255, 3) := by decide +kernel
theorem dX10_layLasting_104 : decode cX10_layLasting 104 = .ok (.istore_n 1, 1) := by decide +kernel
theorem dX10_layLasting_105 : decode cX10_layLasting 105 = .ok (.goto (-71), 3) := by decide +kernel
theorem dX10_layLasting_108 : decode cX10_layLasting 108 = .ok (.return_, 1) := by decide +kernel
theorem dX10_isBest_0 : decode cX10_isBest 0 = .ok (.aload_n 0, 1) := by decide +kernel
theorem dX10_isBest_1 : decode cX10_isBest 1 = .ok (.getfield 50, 3) := by decide +kernel
theorem dX10_isBest_4 : decode cX10_isBest 4 = .ok (.iload_n 1, 1) := by decide +kernel
theorem dX10_isBest_5 : decode cX10_isBest 5 = .ok (.iaload, 1) := by decide +kernel
theorem dX10_isBest_6 : decode cX10_isBest 6 = .ok (.ifCond .le 39, 3) := by decide +kernel
theorem dX10_isBest_9 : decode cX10_isBest 9 = .ok (.aload_n 0, 1) := by decide +kernel
theorem dX10_isBest_10 : decode cX10_isBest 10 = .ok (.getfield 53, 3) := by decide +kernel
theorem dX10_isBest_13 : decode cX10_isBest 13 = .ok (.iload_n 1, 1) := by decide +kernel
theorem dX10_isBest_14 : decode cX10_isBest 14 = .ok (.iaload, 1) := by decide +kernel
theorem dX10_isBest_15 : decode cX10_isBest 15 = .ok (.ifCond .eq 26, 3) := by decide +kernel
theorem dX10_isBest_18 : decode cX10_isBest 18 = .ok (.aload_n 0, 1) := by decide +kernel
theorem dX10_isBest_19 : decode cX10_isBest 19 = .ok (.aload_n 0, 1) := by decide +kernel
theorem dX10_isBest_20 : decode cX10_isBest 20 = .ok (.getfield 50, 3) := by decide +kernel
theorem dX10_isBest_23 : decode cX10_isBest 23 = .ok (.iload_n 1, 1) := by decide +kernel
theorem dX10_isBest_24 : decode cX10_isBest 24 = .ok (.iaload, 1) := by decide +kernel
theorem dX10_isBest_25 : decode cX10_isBest 25 = .ok (.iconst 1, 1) := by decide +kernel
theorem dX10_isBest_26 : decode cX10_isBest 26 = .ok (.isub, 1) := by decide +kernel
theorem dX10_isBest_27 : decode cX10_isBest 27 = .ok (.aload_n 0, 1) := by decide +kernel
theorem dX10_isBest_28 : decode cX10_isBest 28 = .ok (.getfield 53, 3) := by decide +kernel
theorem dX10_isBest_31 : decode cX10_isBest 31 = .ok (.iload_n 1, 1) := by decide +kernel
theorem dX10_isBest_32 : decode cX10_isBest 32 = .ok (.iaload, 1) := by decide +kernel
theorem dX10_isBest_33 : decode cX10_isBest 33 = .ok (.iconst 1, 1) := by decide +kernel
theorem dX10_isBest_34 : decode cX10_isBest 34 = .ok (.isub, 1) := by decide +kernel
theorem dX10_isBest_35 : decode cX10_isBest 35 = .ok (.invokevirtual 236, 3) := by decide +kernel
theorem dX10_isBest_38 : decode cX10_isBest 38 = .ok (.ifCond .eq 7, 3) := by decide +kernel
theorem dX10_isBest_41 : decode cX10_isBest 41 = .ok (.iconst 1, 1) := by decide +kernel
theorem dX10_isBest_42 : decode cX10_isBest 42 = .ok (.goto 4, 3) := by decide +kernel
theorem dX10_isBest_45 : decode cX10_isBest 45 = .ok (.iconst 0, 1) := by decide +kernel
theorem dX10_isBest_46 : decode cX10_isBest 46 = .ok (.ireturn, 1) := by decide +kernel
theorem dX10_lastingNow_0 : decode cX10_lastingNow 0 = .ok (.aload_n 0, 1) := by decide +kernel
theorem dX10_lastingNow_1 : decode cX10_lastingNow 1 = .ok (.invokevirtual 258, 3) := by decide +kernel
theorem dX10_lastingNow_4 : decode cX10_lastingNow 4 = .ok (.iconst 0, 1) := by decide +kernel
theorem dX10_lastingNow_5 : decode cX10_lastingNow 5 = .ok (.istore_n 2, 1) := by decide +kernel
theorem dX10_lastingNow_6 : decode cX10_lastingNow 6 = .ok (.iconst 0, 1) := by decide +kernel
theorem dX10_lastingNow_7 : decode cX10_lastingNow 7 = .ok (.istore_n 3, 1) := by decide +kernel
theorem dX10_lastingNow_8 : decode cX10_lastingNow 8 = .ok (.iload_n 3, 1) := by decide +kernel
theorem dX10_lastingNow_9 : decode cX10_lastingNow 9 = .ok (.aload_n 0, 1) := by decide +kernel
theorem dX10_lastingNow_10 : decode cX10_lastingNow 10 = .ok (.getfield 137, 3) := by decide +kernel
theorem dX10_lastingNow_13 : decode cX10_lastingNow 13 = .ok (.if_icmp .ge 26, 3) := by decide +kernel
theorem dX10_lastingNow_16 : decode cX10_lastingNow 16 = .ok (.iload_n 2, 1) := by decide +kernel
theorem dX10_lastingNow_17 : decode cX10_lastingNow 17 = .ok (.aload_n 0, 1) := by decide +kernel
theorem dX10_lastingNow_18 : decode cX10_lastingNow 18 = .ok (.getfield 53, 3) := by decide +kernel
theorem dX10_lastingNow_21 : decode cX10_lastingNow 21 = .ok (.iload_n 3, 1) := by decide +kernel
theorem dX10_lastingNow_22 : decode cX10_lastingNow 22 = .ok (.iaload, 1) := by decide +kernel
theorem dX10_lastingNow_23 : decode cX10_lastingNow 23 = .ok (.ifCond .le 7, 3) := by decide +kernel
theorem dX10_lastingNow_26 : decode cX10_lastingNow 26 = .ok (.iconst 1, 1) := by decide +kernel
theorem dX10_lastingNow_27 : decode cX10_lastingNow 27 = .ok (.goto 4, 3) := by decide +kernel
theorem dX10_lastingNow_30 : decode cX10_lastingNow 30 = .ok (.iconst 0, 1) := by decide +kernel
theorem dX10_lastingNow_31 : decode cX10_lastingNow 31 = .ok (.iadd, 1) := by decide +kernel
theorem dX10_lastingNow_32 : decode cX10_lastingNow 32 = .ok (.istore_n 2, 1) := by decide +kernel
theorem dX10_lastingNow_33 : decode cX10_lastingNow 33 = .ok (.iinc 3 1, 3) := by decide +kernel
theorem dX10_lastingNow_36 : decode cX10_lastingNow 36 = .ok (.goto (-28), 3) := by decide +kernel
theorem dX10_lastingNow_39 : decode cX10_lastingNow 39 = .ok (.iload_n 1, 1) := by decide +kernel
theorem dX10_lastingNow_40 : decode cX10_lastingNow 40 = .ok (.ifCond .ne 10, 3) := by decide +kernel
theorem dX10_lastingNow_43 : decode cX10_lastingNow 43 = .ok (.aload_n 0, 1) := by decide +kernel
theorem dX10_lastingNow_44 : decode cX10_lastingNow 44 = .ok (.getfield 246, 3) := by decide +kernel
theorem dX10_lastingNow_47 : decode cX10_lastingNow 47 = .ok (.goto 23, 3) := by decide +kernel
theorem dX10_lastingNow_50 : decode cX10_lastingNow 50 = .ok (.iload_n 1, 1) := by decide +kernel
theorem dX10_lastingNow_51 : decode cX10_lastingNow 51 = .ok (.iconst 1, 1) := by decide +kernel
theorem dX10_lastingNow_52 : decode cX10_lastingNow 52 = .ok (.if_icmp .ne 7, 3) := by decide +kernel
theorem dX10_lastingNow_55 : decode cX10_lastingNow 55 = .ok (.iload_n 2, 1) := by decide +kernel
theorem dX10_lastingNow_56 : decode cX10_lastingNow 56 = .ok (.goto 14, 3) := by decide +kernel
theorem dX10_lastingNow_59 : decode cX10_lastingNow 59 = .ok (.aload_n 0, 1) := by decide +kernel
theorem dX10_lastingNow_60 : decode cX10_lastingNow 60 = .ok (.getfield 53, 3) := by decide +kernel
theorem dX10_lastingNow_63 : decode cX10_lastingNow 63 = .ok (.iload_n 1, 1) := by decide +kernel
theorem dX10_lastingNow_64 : decode cX10_lastingNow 64 = .ok (.bipush 10, 2) := by decide +kernel
theorem dX10_lastingNow_66 : decode cX10_lastingNow 66 = .ok (.isub, 1) := by decide +kernel
theorem dX10_lastingNow_67 : decode cX10_lastingNow 67 = .ok (.iaload, 1) := by decide +kernel
theorem dX10_lastingNow_68 : decode cX10_lastingNow 68 = .ok (.iconst 1, 1) := by decide +kernel
theorem dX10_lastingNow_69 : decode cX10_lastingNow 69 = .ok (.isub, 1) := by decide +kernel
theorem dX10_lastingNow_70 : decode cX10_lastingNow 70 = .ok (.ireturn, 1) := by decide +kernel
theorem dX10_lasting_0 : decode cX10_lasting 0 = .ok (.iload_n 1, 1) := by decide +kernel
theorem dX10_lasting_1 : decode cX10_lasting 1 = .ok (.iconst 0, 1) := by decide +kernel
theorem dX10_lasting_2 : decode cX10_lasting 2 = .ok (.iconst 1, 1) := by decide +kernel
theorem dX10_lasting_3 : decode cX10_lasting 3 = .ok (.invokestatic 98, 3) := by decide +kernel
theorem dX10_lasting_6 : decode cX10_lasting 6 = .ok (.ifCond .ne 17, 3) := by decide +kernel
theorem dX10_lasting_9 : decode cX10_lasting 9 = .ok (.iload_n 1, 1) := by decide +kernel
theorem dX10_lasting_10 : decode cX10_lasting 10 = .ok (.bipush 10, 2) := by decide +kernel
theorem dX10_lasting_12 : decode cX10_lasting 12 = .ok (.bipush 13, 2) := by decide +kernel
theorem dX10_lasting_14 : decode cX10_lasting 14 = .ok (.invokestatic 98, 3) := by decide +kernel
theorem dX10_lasting_17 : decode cX10_lasting 17 = .ok (.ifCond .ne 6, 3) := by decide +kernel
theorem dX10_lasting_20 : decode cX10_lasting 20 = .ok (.bipush (-102), 2) := by decide +kernel
theorem dX10_lasting_22 : decode cX10_lasting 22 = .ok (.ireturn, 1) := by decide +kernel
theorem dX10_lasting_23 : decode cX10_lasting 23 = .ok (.aload_n 0, 1) := by decide +kernel
theorem dX10_lasting_24 : decode cX10_lasting 24 = .ok (.getfield 140, 3) := by decide +kernel
theorem dX10_lasting_27 : decode cX10_lasting 27 = .ok (.ifCond .ne 8, 3) := by decide +kernel
theorem dX10_lasting_30 : decode cX10_lasting 30 = .ok (.bipush (-103), 2) := by decide +kernel
theorem dX10_lasting_32 : decode cX10_lasting 32 = .ok (.goto 8, 3) := by decide +kernel
theorem dX10_lasting_35 : decode cX10_lasting 35 = .ok (.aload_n 0, 1) := by decide +kernel
theorem dX10_lasting_36 : decode cX10_lasting 36 = .ok (.iload_n 1, 1) := by decide +kernel
theorem dX10_lasting_37 : decode cX10_lasting 37 = .ok (.invokevirtual 261, 3) := by decide +kernel
theorem dX10_lasting_40 : decode cX10_lasting 40 = .ok (.ireturn, 1) := by decide +kernel
theorem dX10_mutualNow_0 : decode cX10_mutualNow 0 = .ok (.iconst 0, 1) := by decide +kernel
theorem dX10_mutualNow_1 : decode cX10_mutualNow 1 = .ok (.istore_n 1, 1) := by decide +kernel
theorem dX10_mutualNow_2 : decode cX10_mutualNow 2 = .ok (.iconst 0, 1) := by decide +kernel
theorem dX10_mutualNow_3 : decode cX10_mutualNow 3 = .ok (.istore_n 2, 1) := by decide +kernel
theorem dX10_mutualNow_4 : decode cX10_mutualNow 4 = .ok (.iload_n 2, 1) := by decide +kernel
theorem dX10_mutualNow_5 : decode cX10_mutualNow 5 = .ok (.aload_n 0, 1) := by decide +kernel
theorem dX10_mutualNow_6 : decode cX10_mutualNow 6 = .ok (.getfield 137, 3) := by decide +kernel
theorem dX10_mutualNow_9 : decode cX10_mutualNow 9 = .ok (.if_icmp .ge 45, 3) := by decide +kernel
theorem dX10_mutualNow_12 : decode cX10_mutualNow 12 = .ok (.aload_n 0, 1) := by decide +kernel
theorem dX10_mutualNow_13 : decode cX10_mutualNow 13 = .ok (.getfield 137, 3) := by decide +kernel
theorem dX10_mutualNow_16 : decode cX10_mutualNow 16 = .ok (.istore_n 3, 1) := by decide +kernel
theorem dX10_mutualNow_17 : decode cX10_mutualNow 17 = .ok (.iload_n 3, 1) := by decide +kernel
theorem dX10_mutualNow_18 : decode cX10_mutualNow 18 = .ok (.aload_n 0, 1) := by decide +kernel
theorem dX10_mutualNow_19 : decode cX10_mutualNow 19 = .ok (.getfield 140, 3) := by decide +kernel
theorem dX10_mutualNow_22 : decode cX10_mutualNow 22 = .ok (.if_icmp .ge 26, 3) := by decide +kernel
theorem dX10_mutualNow_25 : decode cX10_mutualNow 25 = .ok (.iload_n 1, 1) := by decide +kernel
theorem dX10_mutualNow_26 : decode cX10_mutualNow 26 = .ok (.aload_n 0, 1) := by decide +kernel
theorem dX10_mutualNow_27 : decode cX10_mutualNow 27 = .ok (.iload_n 2, 1) := by decide +kernel
theorem dX10_mutualNow_28 : decode cX10_mutualNow 28 = .ok (.iload_n 3, 1) := by decide +kernel
theorem dX10_mutualNow_29 : decode cX10_mutualNow 29 = .ok (.invokevirtual 230, 3) := by decide +kernel
theorem dX10_mutualNow_32 : decode cX10_mutualNow 32 = .ok (.ifCond .eq 7, 3) := by decide +kernel
theorem dX10_mutualNow_35 : decode cX10_mutualNow 35 = .ok (.iconst 1, 1) := by decide +kernel
theorem dX10_mutualNow_36 : decode cX10_mutualNow 36 = .ok (.goto 4, 3) := by decide +kernel
theorem dX10_mutualNow_39 : decode cX10_mutualNow 39 = .ok (.iconst 0, 1) := by decide +kernel
theorem dX10_mutualNow_40 : decode cX10_mutualNow 40 = .ok (.iadd, 1) := by decide +kernel
theorem dX10_mutualNow_41 : decode cX10_mutualNow 41 = .ok (.istore_n 1, 1) := by decide +kernel
theorem dX10_mutualNow_42 : decode cX10_mutualNow 42 = .ok (.iinc 3 1, 3) := by decide +kernel
theorem dX10_mutualNow_45 : decode cX10_mutualNow 45 = .ok (.goto (-28), 3) := by decide +kernel
theorem dX10_mutualNow_48 : decode cX10_mutualNow 48 = .ok (.iinc 2 1, 3) := by decide +kernel
theorem dX10_mutualNow_51 : decode cX10_mutualNow 51 = .ok (.goto (-47), 3) := by decide +kernel
theorem dX10_mutualNow_54 : decode cX10_mutualNow 54 = .ok (.iload_n 1, 1) := by decide +kernel
theorem dX10_mutualNow_55 : decode cX10_mutualNow 55 = .ok (.ireturn, 1) := by decide +kernel
theorem dX10_mutual_0 : decode cX10_mutual 0 = .ok (.aload_n 0, 1) := by decide +kernel
theorem dX10_mutual_1 : decode cX10_mutual 1 = .ok (.getfield 140, 3) := by decide +kernel
theorem dX10_mutual_4 : decode cX10_mutual 4 = .ok (.ifCond .ne 8, 3) := by decide +kernel
theorem dX10_mutual_7 : decode cX10_mutual 7 = .ok (.bipush (-103), 2) := by decide +kernel
theorem dX10_mutual_9 : decode cX10_mutual 9 = .ok (.goto 7, 3) := by decide +kernel
theorem dX10_mutual_12 : decode cX10_mutual 12 = .ok (.aload_n 0, 1) := by decide +kernel
theorem dX10_mutual_13 : decode cX10_mutual 13 = .ok (.invokevirtual 264, 3) := by decide +kernel
theorem dX10_mutual_16 : decode cX10_mutual 16 = .ok (.ireturn, 1) := by decide +kernel
theorem dX10_save_0 : decode cX10_save 0 = .ok (.aload_n 0, 1) := by decide +kernel
theorem dX10_save_1 : decode cX10_save 1 = .ok (.aload_n 0, 1) := by decide +kernel
theorem dX10_save_2 : decode cX10_save 2 = .ok (.getfield 143, 3) := by decide +kernel
theorem dX10_save_5 : decode cX10_save 5 = .ok (.putfield 267, 3) := by decide +kernel
theorem dX10_save_8 : decode cX10_save 8 = .ok (.aload_n 0, 1) := by decide +kernel
theorem dX10_save_9 : decode cX10_save 9 = .ok (.aload_n 0, 1) := by decide +kernel
theorem dX10_save_10 : decode cX10_save 10 = .ok (.getfield 149, 3) := by decide +kernel
theorem dX10_save_13 : decode cX10_save 13 = .ok (.putfield 270, 3) := by decide +kernel
theorem dX10_save_16 : decode cX10_save 16 = .ok (.aload_n 0, 1) := by decide +kernel
theorem dX10_save_17 : decode cX10_save 17 = .ok (.aload_n 0, 1) := by decide +kernel
theorem dX10_save_18 : decode cX10_save 18 = .ok (.getfield 152, 3) := by decide +kernel
theorem dX10_save_21 : decode cX10_save 21 = .ok (.putfield 273, 3) := by decide +kernel
theorem dX10_save_24 : decode cX10_save 24 = .ok (.iconst 0, 1) := by decide +kernel
theorem dX10_save_25 : decode cX10_save 25 = .ok (.istore_n 1, 1) := by decide +kernel
theorem dX10_save_26 : decode cX10_save 26 = .ok (.iload_n 1, 1) := by decide +kernel
theorem dX10_save_27 : decode cX10_save 27 = .ok (.bipush 8, 2) := by decide +kernel
theorem dX10_save_29 : decode cX10_save 29 = .ok (.if_icmp .ge 57, 3) := by decide +kernel
theorem dX10_save_32 : decode cX10_save 32 = .ok (.aload_n 0, 1) := by decide +kernel
theorem dX10_save_33 : decode cX10_save 33 = .ok (.getfield 56, 3) := by decide +kernel
theorem dX10_save_36 : decode cX10_save 36 = .ok (.iload_n 1, 1) := by decide +kernel
theorem dX10_save_37 : decode cX10_save 37 = .ok (.aload_n 0, 1) := by decide +kernel
theorem dX10_save_38 : decode cX10_save 38 = .ok (.getfield 22, 3) := by decide +kernel
theorem dX10_save_41 : decode cX10_save 41 = .ok (.iload_n 1, 1) := by decide +kernel
theorem dX10_save_42 : decode cX10_save 42 = .ok (.iaload, 1) := by decide +kernel
theorem dX10_save_43 : decode cX10_save 43 = .ok (.iastore, 1) := by decide +kernel
theorem dX10_save_44 : decode cX10_save 44 = .ok (.aload_n 0, 1) := by decide +kernel
theorem dX10_save_45 : decode cX10_save 45 = .ok (.getfield 59, 3) := by decide +kernel
theorem dX10_save_48 : decode cX10_save 48 = .ok (.iload_n 1, 1) := by decide +kernel
theorem dX10_save_49 : decode cX10_save 49 = .ok (.aload_n 0, 1) := by decide +kernel
theorem dX10_save_50 : decode cX10_save 50 = .ok (.getfield 25, 3) := by decide +kernel
theorem dX10_save_53 : decode cX10_save 53 = .ok (.iload_n 1, 1) := by decide +kernel
theorem dX10_save_54 : decode cX10_save 54 = .ok (.iaload, 1) := by decide +kernel
theorem dX10_save_55 : decode cX10_save 55 = .ok (.iastore, 1) := by decide +kernel
theorem dX10_save_56 : decode cX10_save 56 = .ok (.aload_n 0, 1) := by decide +kernel
theorem dX10_save_57 : decode cX10_save 57 = .ok (.getfield 62, 3) := by decide +kernel
theorem dX10_save_60 : decode cX10_save 60 = .ok (.iload_n 1, 1) := by decide +kernel
theorem dX10_save_61 : decode cX10_save 61 = .ok (.aload_n 0, 1) := by decide +kernel
theorem dX10_save_62 : decode cX10_save 62 = .ok (.getfield 28, 3) := by decide +kernel
theorem dX10_save_65 : decode cX10_save 65 = .ok (.iload_n 1, 1) := by decide +kernel
theorem dX10_save_66 : decode cX10_save 66 = .ok (.iaload, 1) := by decide +kernel
theorem dX10_save_67 : decode cX10_save 67 = .ok (.iastore, 1) := by decide +kernel
theorem dX10_save_68 : decode cX10_save 68 = .ok (.aload_n 0, 1) := by decide +kernel
theorem dX10_save_69 : decode cX10_save 69 = .ok (.getfield 65, 3) := by decide +kernel
theorem dX10_save_72 : decode cX10_save 72 = .ok (.iload_n 1, 1) := by decide +kernel
theorem dX10_save_73 : decode cX10_save 73 = .ok (.aload_n 0, 1) := by decide +kernel
theorem dX10_save_74 : decode cX10_save 74 = .ok (.getfield 31, 3) := by decide +kernel
theorem dX10_save_77 : decode cX10_save 77 = .ok (.iload_n 1, 1) := by decide +kernel
theorem dX10_save_78 : decode cX10_save 78 = .ok (.iaload, 1) := by decide +kernel
theorem dX10_save_79 : decode cX10_save 79 = .ok (.iastore, 1) := by decide +kernel
theorem dX10_save_80 : decode cX10_save 80 = .ok (.iinc 1 1, 3) := by decide +kernel
theorem dX10_save_83 : decode cX10_save 83 = .ok (.goto (-57), 3) := by decide +kernel
theorem dX10_save_86 : decode cX10_save 86 = .ok (.return_, 1) := by decide +kernel
theorem dX10_load_0 : decode cX10_load 0 = .ok (.aload_n 0, 1) := by decide +kernel
theorem dX10_load_1 : decode cX10_load 1 = .ok (.aload_n 0, 1) := by decide +kernel
theorem dX10_load_2 : decode cX10_load 2 = .ok (.getfield 267, 3) := by decide +kernel
theorem dX10_load_5 : decode cX10_load 5 = .ok (.putfield 143, 3) := by decide +kernel
theorem dX10_load_8 : decode cX10_load 8 = .ok (.aload_n 0, 1) := by decide +kernel
theorem dX10_load_9 : decode cX10_load 9 = .ok (.aload_n 0, 1) := by decide +kernel
theorem dX10_load_10 : decode cX10_load 10 = .ok (.getfield 270, 3) := by decide +kernel
theorem dX10_load_13 : decode cX10_load 13 = .ok (.putfield 149, 3) := by decide +kernel
theorem dX10_load_16 : decode cX10_load 16 = .ok (.aload_n 0, 1) := by decide +kernel
theorem dX10_load_17 : decode cX10_load 17 = .ok (.aload_n 0, 1) := by decide +kernel
theorem dX10_load_18 : decode cX10_load 18 = .ok (.getfield 273, 3) := by decide +kernel
theorem dX10_load_21 : decode cX10_load 21 = .ok (.putfield 152, 3) := by decide +kernel
theorem dX10_load_24 : decode cX10_load 24 = .ok (.iconst 0, 1) := by decide +kernel
theorem dX10_load_25 : decode cX10_load 25 = .ok (.istore_n 1, 1) := by decide +kernel
theorem dX10_load_26 : decode cX10_load 26 = .ok (.iload_n 1, 1) := by decide +kernel
theorem dX10_load_27 : decode cX10_load 27 = .ok (.bipush 8, 2) := by decide +kernel
theorem dX10_load_29 : decode cX10_load 29 = .ok (.if_icmp .ge 57, 3) := by decide +kernel
theorem dX10_load_32 : decode cX10_load 32 = .ok (.aload_n 0, 1) := by decide +kernel
theorem dX10_load_33 : decode cX10_load 33 = .ok (.getfield 22, 3) := by decide +kernel
theorem dX10_load_36 : decode cX10_load 36 = .ok (.iload_n 1, 1) := by decide +kernel
theorem dX10_load_37 : decode cX10_load 37 = .ok (.aload_n 0, 1) := by decide +kernel
theorem dX10_load_38 : decode cX10_load 38 = .ok (.getfield 56, 3) := by decide +kernel
theorem dX10_load_41 : decode cX10_load 41 = .ok (.iload_n 1, 1) := by decide +kernel
theorem dX10_load_42 : decode cX10_load 42 = .ok (.iaload, 1) := by decide +kernel
theorem dX10_load_43 : decode cX10_load 43 = .ok (.iastore, 1) := by decide +kernel
theorem dX10_load_44 : decode cX10_load 44 = .ok (.aload_n 0, 1) := by decide +kernel
theorem dX10_load_45 : decode cX10_load 45 = .ok (.getfield 25, 3) := by decide +kernel
theorem dX10_load_48 : decode cX10_load 48 = .ok (.iload_n 1, 1) := by decide +kernel
theorem dX10_load_49 : decode cX10_load 49 = .ok (.aload_n 0, 1) := by decide +kernel
theorem dX10_load_50 : decode cX10_load 50 = .ok (.getfield 59, 3) := by decide +kernel
theorem dX10_load_53 : decode cX10_load 53 = .ok (.iload_n 1, 1) := by decide +kernel
theorem dX10_load_54 : decode cX10_load 54 = .ok (.iaload, 1) := by decide +kernel
theorem dX10_load_55 : decode cX10_load 55 = .ok (.iastore, 1) := by decide +kernel
theorem dX10_load_56 : decode cX10_load 56 = .ok (.aload_n 0, 1) := by decide +kernel
theorem dX10_load_57 : decode cX10_load 57 = .ok (.getfield 28, 3) := by decide +kernel
theorem dX10_load_60 : decode cX10_load 60 = .ok (.iload_n 1, 1) := by decide +kernel
theorem dX10_load_61 : decode cX10_load 61 = .ok (.aload_n 0, 1) := by decide +kernel
theorem dX10_load_62 : decode cX10_load 62 = .ok (.getfield 62, 3) := by decide +kernel
theorem dX10_load_65 : decode cX10_load 65 = .ok (.iload_n 1, 1) := by decide +kernel
theorem dX10_load_66 : decode cX10_load 66 = .ok (.iaload, 1) := by decide +kernel
theorem dX10_load_67 : decode cX10_load 67 = .ok (.iastore, 1) := by decide +kernel
theorem dX10_load_68 : decode cX10_load 68 = .ok (.aload_n 0, 1) := by decide +kernel
theorem dX10_load_69 : decode cX10_load 69 = .ok (.getfield 31, 3) := by decide +kernel
theorem dX10_load_72 : decode cX10_load 72 = .ok (.iload_n 1, 1) := by decide +kernel
theorem dX10_load_73 : decode cX10_load 73 = .ok (.aload_n 0, 1) := by decide +kernel
theorem dX10_load_74 : decode cX10_load 74 = .ok (.getfield 65, 3) := by decide +kernel
theorem dX10_load_77 : decode cX10_load 77 = .ok (.iload_n 1, 1) := by decide +kernel
theorem dX10_load_78 : decode cX10_load 78 = .ok (.iaload, 1) := by decide +kernel
theorem dX10_load_79 : decode cX10_load 79 = .ok (.iastore, 1) := by decide +kernel
theorem dX10_load_80 : decode cX10_load 80 = .ok (.iinc 1 1, 3) := by decide +kernel
theorem dX10_load_83 : decode cX10_load 83 = .ok (.goto (-57), 3) := by decide +kernel
theorem dX10_load_86 : decode cX10_load 86 = .ok (.return_, 1) := by decide +kernel
theorem dX10_nextFor_0 : decode cX10_nextFor 0 = .ok (.iconst (-1), 1) := by decide +kernel
theorem dX10_nextFor_1 : decode cX10_nextFor 1 = .ok (.istore_n 3, 1) := by decide +kernel
theorem dX10_nextFor_2 : decode cX10_nextFor 2 = .ok (.iconst 0, 1) := by decide +kernel
theorem dX10_nextFor_3 : decode cX10_nextFor 3 = .ok (.istore 4, 2) := by decide +kernel
theorem dX10_nextFor_5 : decode cX10_nextFor 5 = .ok (.iload 4, 2) := by decide +kernel
theorem dX10_nextFor_7 : decode cX10_nextFor 7 = .ok (.aload_n 0, 1) := by decide +kernel
theorem dX10_nextFor_8 : decode cX10_nextFor 8 = .ok (.getfield 140, 3) := by decide +kernel
theorem dX10_nextFor_11 : decode cX10_nextFor 11 = .ok (.if_icmp .ge 91, 3) := by decide +kernel
theorem dX10_nextFor_14 : decode cX10_nextFor 14 = .ok (.aload_n 0, 1) := by decide +kernel
theorem dX10_nextFor_15 : decode cX10_nextFor 15 = .ok (.iload_n 1, 1) := by decide +kernel
theorem dX10_nextFor_16 : decode cX10_nextFor 16 = .ok (.iload 4, 2) := by decide +kernel
theorem dX10_nextFor_18 : decode cX10_nextFor 18 = .ok (.invokevirtual 174, 3) := by decide +kernel
theorem dX10_nextFor_21 : decode cX10_nextFor 21 = .ok (.ifCond .eq 28, 3) := by decide +kernel
theorem dX10_nextFor_24 : decode cX10_nextFor 24 = .ok (.aload_n 0, 1) := by decide +kernel
theorem dX10_nextFor_25 : decode cX10_nextFor 25 = .ok (.getfield 34, 3) := by decide +kernel
theorem dX10_nextFor_28 : decode cX10_nextFor 28 = .ok (.iload 4, 2) := by decide +kernel
theorem dX10_nextFor_30 : decode cX10_nextFor 30 = .ok (.iaload, 1) := by decide +kernel
theorem dX10_nextFor_31 : decode cX10_nextFor 31 = .ok (.iconst (-1), 1) := by decide +kernel
theorem dX10_nextFor_32 : decode cX10_nextFor 32 = .ok (.if_icmp .ne 17, 3) := by decide +kernel
theorem dX10_nextFor_35 : decode cX10_nextFor 35 = .ok (.aload_n 0, 1) := by decide +kernel
theorem dX10_nextFor_36 : decode cX10_nextFor 36 = .ok (.iload_n 1, 1) := by decide +kernel
theorem dX10_nextFor_37 : decode cX10_nextFor 37 = .ok (.iload 4, 2) := by decide +kernel
theorem dX10_nextFor_39 : decode cX10_nextFor 39 = .ok (.invokevirtual 211, 3) := by decide +kernel
theorem dX10_nextFor_42 : decode cX10_nextFor 42 = .ok (.ifCond .ne 7, 3) := by decide +kernel
theorem dX10_nextFor_45 : decode cX10_nextFor 45 = .ok (.iconst 1, 1) := by decide +kernel
theorem dX10_nextFor_46 : decode cX10_nextFor 46 = .ok (.goto 4, 3) := by decide +kernel
theorem dX10_nextFor_49 : decode cX10_nextFor 49 = .ok (.iconst 0, 1) := by decide +kernel
theorem dX10_nextFor_50 : decode cX10_nextFor 50 = .ok (.istore 5, 2) := by decide +kernel
theorem dX10_nextFor_52 : decode cX10_nextFor 52 = .ok (.iload_n 3, 1) := by decide +kernel
theorem dX10_nextFor_53 : decode cX10_nextFor 53 = .ok (.iconst (-1), 1) := by decide +kernel
theorem dX10_nextFor_54 : decode cX10_nextFor 54 = .ok (.if_icmp .eq 18, 3) := by decide +kernel
theorem dX10_nextFor_57 : decode cX10_nextFor 57 = .ok (.iload_n 2, 1) := by decide +kernel
theorem dX10_nextFor_58 : decode cX10_nextFor 58 = .ok (.iconst 1, 1) := by decide +kernel
theorem dX10_nextFor_59 : decode cX10_nextFor 59 = .ok (.if_icmp .ne 17, 3) := by decide +kernel
theorem dX10_nextFor_62 : decode cX10_nextFor 62 = .ok (.aload_n 0, 1) := by decide +kernel
theorem dX10_nextFor_63 : decode cX10_nextFor 63 = .ok (.iload 4, 2) := by decide +kernel
theorem dX10_nextFor_65 : decode cX10_nextFor 65 = .ok (.iload_n 3, 1) := by decide +kernel
theorem dX10_nextFor_66 : decode cX10_nextFor 66 = .ok (.invokevirtual 236, 3) := by decide +kernel
theorem dX10_nextFor_69 : decode cX10_nextFor 69 = .ok (.ifCond .eq 7, 3) := by decide +kernel
theorem dX10_nextFor_72 : decode cX10_nextFor 72 = .ok (.iconst 1, 1) := by decide +kernel
theorem dX10_nextFor_73 : decode cX10_nextFor 73 = .ok (.goto 4, 3) := by decide +kernel
theorem dX10_nextFor_76 : decode cX10_nextFor 76 = .ok (.iconst 0, 1) := by decide +kernel
theorem dX10_nextFor_77 : decode cX10_nextFor 77 = .ok (.istore 6, 2) := by decide +kernel
theorem dX10_nextFor_79 : decode cX10_nextFor 79 = .ok (.iload 5, 2) := by decide +kernel
theorem dX10_nextFor_81 : decode cX10_nextFor 81 = .ok (.ifCond .eq 13, 3) := by decide +kernel
theorem dX10_nextFor_84 : decode cX10_nextFor 84 = .ok (.iload 6, 2) := by decide +kernel
theorem dX10_nextFor_86 : decode cX10_nextFor 86 = .ok (.ifCond .eq 8, 3) := by decide +kernel
theorem dX10_nextFor_89 : decode cX10_nextFor 89 = .ok (.iload 4, 2) := by decide +kernel
theorem dX10_nextFor_91 : decode cX10_nextFor 91 = .ok (.goto 4, 3) := by decide +kernel
theorem dX10_nextFor_94 : decode cX10_nextFor 94 = .ok (.iload_n 3, 1) := by decide +kernel
theorem dX10_nextFor_95 : decode cX10_nextFor 95 = .ok (.istore_n 3, 1) := by decide +kernel
theorem dX10_nextFor_96 : decode cX10_nextFor 96 = .ok (.iinc 4 1, 3) := by decide +kernel
theorem dX10_nextFor_99 : decode cX10_nextFor 99 = .ok (.goto (-94), 3) := by decide +kernel
theorem dX10_nextFor_102 : decode cX10_nextFor 102 = .ok (.iload_n 3, 1) := by decide +kernel
theorem dX10_nextFor_103 : decode cX10_nextFor 103 = .ok (.ireturn, 1) := by decide +kernel
theorem dX10_showThree_0 : decode cX10_showThree 0 = .ok (.iconst 0, 1) := by decide +kernel
theorem dX10_showThree_1 : decode cX10_showThree 1 = .ok (.istore_n 3, 1) := by decide +kernel
theorem dX10_showThree_2 : decode cX10_showThree 2 = .ok (.iload_n 3, 1) := by decide +kernel
theorem dX10_showThree_3 : decode cX10_showThree 3 = .ok (.iconst 3, 1) := by decide +kernel
theorem dX10_showThree_4 : decode cX10_showThree 4 = .ok (.if_icmp .ge 31, 3) := by decide +kernel
theorem dX10_showThree_7 : decode cX10_showThree 7 = .ok (.aload_n 0, 1) := by decide +kernel
theorem dX10_showThree_8 : decode cX10_showThree 8 = .ok (.iload_n 1, 1) := by decide +kernel
theorem dX10_showThree_9 : decode cX10_showThree 9 = .ok (.iload_n 2, 1) := by decide +kernel
theorem dX10_showThree_10 : decode cX10_showThree 10 = .ok (.invokevirtual 276, 3) := by decide +kernel
theorem dX10_showThree_13 : decode cX10_showThree 13 = .ok (.istore 4, 2) := by decide +kernel
theorem dX10_showThree_15 : decode cX10_showThree 15 = .ok (.iload 4, 2) := by decide +kernel
theorem dX10_showThree_17 : decode cX10_showThree 17 = .ok (.iconst (-1), 1) := by decide +kernel
theorem dX10_showThree_18 : decode cX10_showThree 18 = .ok (.if_icmp .eq 11, 3) := by decide +kernel
theorem dX10_showThree_21 : decode cX10_showThree 21 = .ok (.aload_n 0, 1) := by decide +kernel
theorem dX10_showThree_22 : decode cX10_showThree 22 = .ok (.iload_n 1, 1) := by decide +kernel
theorem dX10_showThree_23 : decode cX10_showThree 23 = .ok (.iload 4, 2) := by decide +kernel
theorem dX10_showThree_25 : decode cX10_showThree 25 = .ok (.invokevirtual 217, 3) := by decide +kernel
theorem dX10_showThree_28 : decode cX10_showThree 28 = .ok (.pop, 1) := by decide +kernel
theorem dX10_showThree_29 : decode cX10_showThree 29 = .ok (.iinc 3 1, 3) := by decide +kernel
theorem dX10_showThree_32 : decode cX10_showThree 32 = .ok (.goto (-30), 3) := by decide +kernel
theorem dX10_showThree_35 : decode cX10_showThree 35 = .ok (.return_, 1) := by decide +kernel
theorem dX10_matches_0 : decode cX10_matches 0 = .ok (.iconst 0, 1) := by decide +kernel
theorem dX10_matches_1 : decode cX10_matches 1 = .ok (.istore_n 1, 1) := by decide +kernel
theorem dX10_matches_2 : decode cX10_matches 2 = .ok (.iconst 0, 1) := by decide +kernel
theorem dX10_matches_3 : decode cX10_matches 3 = .ok (.istore_n 2, 1) := by decide +kernel
theorem dX10_matches_4 : decode cX10_matches 4 = .ok (.iload_n 2, 1) := by decide +kernel
theorem dX10_matches_5 : decode cX10_matches 5 = .ok (.aload_n 0, 1) := by decide +kernel
theorem dX10_matches_6 : decode cX10_matches 6 = .ok (.getfield 137, 3) := by decide +kernel
theorem dX10_matches_9 : decode cX10_matches 9 = .ok (.if_icmp .ge 20, 3) := by decide +kernel
theorem dX10_matches_12 : decode cX10_matches 12 = .ok (.iload_n 1, 1) := by decide +kernel
theorem dX10_matches_13 : decode cX10_matches 13 = .ok (.aload_n 0, 1) := by decide +kernel
theorem dX10_matches_14 : decode cX10_matches 14 = .ok (.iload_n 2, 1) := by decide +kernel
theorem dX10_matches_15 : decode cX10_matches 15 = .ok (.invokevirtual 192, 3) := by decide +kernel
theorem dX10_matches_18 : decode cX10_matches 18 = .ok (.invokestatic 279, 3) := by decide +kernel
theorem dX10_matches_21 : decode cX10_matches 21 = .ok (.iadd, 1) := by decide +kernel
theorem dX10_matches_22 : decode cX10_matches 22 = .ok (.istore_n 1, 1) := by decide +kernel
theorem dX10_matches_23 : decode cX10_matches 23 = .ok (.iinc 2 1, 3) := by decide +kernel
theorem dX10_matches_26 : decode cX10_matches 26 = .ok (.goto (-22), 3) := by decide +kernel
theorem dX10_matches_29 : decode cX10_matches 29 = .ok (.iload_n 1, 1) := by decide +kernel
theorem dX10_matches_30 : decode cX10_matches 30 = .ok (.ireturn, 1) := by decide +kernel
theorem dX10_comesNow_0 : decode cX10_comesNow 0 = .ok (.aload_n 0, 1) := by decide +kernel
theorem dX10_comesNow_1 : decode cX10_comesNow 1 = .ok (.invokevirtual 282, 3) := by decide +kernel
theorem dX10_comesNow_4 : decode cX10_comesNow 4 = .ok (.aload_n 0, 1) := by decide +kernel
theorem dX10_comesNow_5 : decode cX10_comesNow 5 = .ok (.iload_n 2, 1) := by decide +kernel
theorem dX10_comesNow_6 : decode cX10_comesNow 6 = .ok (.putfield 143, 3) := by decide +kernel
theorem dX10_comesNow_9 : decode cX10_comesNow 9 = .ok (.iconst 0, 1) := by decide +kernel
theorem dX10_comesNow_10 : decode cX10_comesNow 10 = .ok (.istore 4, 2) := by decide +kernel
theorem dX10_comesNow_12 : decode cX10_comesNow 12 = .ok (.iload 4, 2) := by decide +kernel
theorem dX10_comesNow_14 : decode cX10_comesNow 14 = .ok (.aload_n 0, 1) := by decide +kernel
theorem dX10_comesNow_15 : decode cX10_comesNow 15 = .ok (.getfield 140, 3) := by decide +kernel
theorem dX10_comesNow_18 : decode cX10_comesNow 18 = .ok (.if_icmp .ge 33, 3) := by decide +kernel
theorem dX10_comesNow_21 : decode cX10_comesNow 21 = .ok (.aload_n 0, 1) := by decide +kernel
theorem dX10_comesNow_22 : decode cX10_comesNow 22 = .ok (.getfield 22, 3) := by decide +kernel
theorem dX10_comesNow_25 : decode cX10_comesNow 25 = .ok (.iload 4, 2) := by decide +kernel
theorem dX10_comesNow_27 : decode cX10_comesNow 27 = .ok (.iconst 0, 1) := by decide +kernel
theorem dX10_comesNow_28 : decode cX10_comesNow 28 = .ok (.iastore, 1) := by decide +kernel
theorem dX10_comesNow_29 : decode cX10_comesNow 29 = .ok (.aload_n 0, 1) := by decide +kernel
theorem dX10_comesNow_30 : decode cX10_comesNow 30 = .ok (.getfield 25, 3) := by decide +kernel
theorem dX10_comesNow_33 : decode cX10_comesNow 33 = .ok (.iload 4, 2) := by decide +kernel
theorem dX10_comesNow_35 : decode cX10_comesNow 35 = .ok (.iconst 0, 1) := by decide +kernel
theorem dX10_comesNow_36 : decode cX10_comesNow 36 = .ok (.iastore, 1) := by decide +kernel
theorem dX10_comesNow_37 : decode cX10_comesNow 37 = .ok (.aload_n 0, 1) := by decide +kernel
theorem dX10_comesNow_38 : decode cX10_comesNow 38 = .ok (.getfield 28, 3) := by decide +kernel
theorem dX10_comesNow_41 : decode cX10_comesNow 41 = .ok (.iload 4, 2) := by decide +kernel
theorem dX10_comesNow_43 : decode cX10_comesNow 43 = .ok (.iconst 0, 1) := by decide +kernel
theorem dX10_comesNow_44 : decode cX10_comesNow 44 = .ok (.iastore, 1) := by decide +kernel
theorem dX10_comesNow_45 : decode cX10_comesNow 45 = .ok (.iinc 4 1, 3) := by decide +kernel
theorem dX10_comesNow_48 : decode cX10_comesNow 48 = .ok (.goto (-36), 3) := by decide +kernel
theorem dX10_comesNow_51 : decode cX10_comesNow 51 = .ok (.iconst 0, 1) := by decide +kernel
theorem dX10_comesNow_52 : decode cX10_comesNow 52 = .ok (.istore 4, 2) := by decide +kernel
theorem dX10_comesNow_54 : decode cX10_comesNow 54 = .ok (.iload 4, 2) := by decide +kernel
theorem dX10_comesNow_56 : decode cX10_comesNow 56 = .ok (.iload_n 1, 1) := by decide +kernel
theorem dX10_comesNow_57 : decode cX10_comesNow 57 = .ok (.if_icmp .ge 69, 3) := by decide +kernel
theorem dX10_comesNow_60 : decode cX10_comesNow 60 = .ok (.iconst 0, 1) := by decide +kernel
theorem dX10_comesNow_61 : decode cX10_comesNow 61 = .ok (.istore 5, 2) := by decide +kernel
theorem dX10_comesNow_63 : decode cX10_comesNow 63 = .ok (.iload 5, 2) := by decide +kernel
theorem dX10_comesNow_65 : decode cX10_comesNow 65 = .ok (.aload_n 0, 1) := by decide +kernel
theorem dX10_comesNow_66 : decode cX10_comesNow 66 = .ok (.getfield 140, 3) := by decide +kernel
theorem dX10_comesNow_69 : decode cX10_comesNow 69 = .ok (.if_icmp .ge 17, 3) := by decide +kernel
theorem dX10_comesNow_72 : decode cX10_comesNow 72 = .ok (.aload_n 0, 1) := by decide +kernel
theorem dX10_comesNow_73 : decode cX10_comesNow 73 = .ok (.getfield 31, 3) := by decide +kernel
theorem dX10_comesNow_76 : decode cX10_comesNow 76 = .ok (.iload 5, 2) := by decide +kernel
theorem dX10_comesNow_78 : decode cX10_comesNow 78 = .ok (.iconst 0, 1) := by decide +kernel
theorem dX10_comesNow_79 : decode cX10_comesNow 79 = .ok (.iastore, 1) := by decide +kernel
theorem dX10_comesNow_80 : decode cX10_comesNow 80 = .ok (.iinc 5 1, 3) := by decide +kernel
theorem dX10_comesNow_83 : decode cX10_comesNow 83 = .ok (.goto (-20), 3) := by decide +kernel
theorem dX10_comesNow_86 : decode cX10_comesNow 86 = .ok (.iconst 0, 1) := by decide +kernel
theorem dX10_comesNow_87 : decode cX10_comesNow 87 = .ok (.istore 5, 2) := by decide +kernel
theorem dX10_comesNow_89 : decode cX10_comesNow 89 = .ok (.iload 5, 2) := by decide +kernel
theorem dX10_comesNow_91 : decode cX10_comesNow 91 = .ok (.aload_n 0, 1) := by decide +kernel
theorem dX10_comesNow_92 : decode cX10_comesNow 92 = .ok (.getfield 140, 3) := by decide +kernel
theorem dX10_comesNow_95 : decode cX10_comesNow 95 = .ok (.if_icmp .ge 25, 3) := by decide +kernel
theorem dX10_comesNow_98 : decode cX10_comesNow 98 = .ok (.aload_n 0, 1) := by decide +kernel
theorem dX10_comesNow_99 : decode cX10_comesNow 99 = .ok (.iload 5, 2) := by decide +kernel
theorem dX10_comesNow_101 : decode cX10_comesNow 101 = .ok (.invokevirtual 214, 3) := by decide +kernel
theorem dX10_comesNow_104 : decode cX10_comesNow 104 = .ok (.ifCond .eq 10, 3) := by decide +kernel
theorem dX10_comesNow_107 : decode cX10_comesNow 107 = .ok (.aload_n 0, 1) := by decide +kernel
theorem dX10_comesNow_108 : decode cX10_comesNow 108 = .ok (.iload 5, 2) := by decide +kernel
theorem dX10_comesNow_110 : decode cX10_comesNow 110 = .ok (.iload_n 3, 1) := by decide +kernel
theorem dX10_comesNow_111 : decode cX10_comesNow 111 = .ok (.invokevirtual 285, 3) := by decide +kernel
theorem dX10_comesNow_114 : decode cX10_comesNow 114 = .ok (.iinc 5 1, 3) := by decide +kernel
theorem dX10_comesNow_117 : decode cX10_comesNow 117 = .ok (.goto (-28), 3) := by decide +kernel
theorem dX10_comesNow_120 : decode cX10_comesNow 120 = .ok (.iinc 4 1, 3) := by decide +kernel
theorem dX10_comesNow_123 : decode cX10_comesNow 123 = .ok (.goto (-69), 3) := by decide +kernel
theorem dX10_comesNow_126 : decode cX10_comesNow 126 = .ok (.aload_n 0, 1) := by decide +kernel
theorem dX10_comesNow_127 : decode cX10_comesNow 127 = .ok (.invokevirtual 288, 3) := by decide +kernel
theorem dX10_comesNow_130 : decode cX10_comesNow 130 = .ok (.istore 4, 2) := by decide +kernel
theorem dX10_comesNow_132 : decode cX10_comesNow 132 = .ok (.aload_n 0, 1) := by decide +kernel
theorem dX10_comesNow_133 : decode cX10_comesNow 133 = .ok (.invokevirtual 291, 3) := by decide +kernel
theorem dX10_comesNow_136 : decode cX10_comesNow 136 = .ok (.iload 4, 2) := by decide +kernel
theorem dX10_comesNow_138 : decode cX10_comesNow 138 = .ok (.ireturn, 1) := by decide +kernel
theorem dX10_comes_0 : decode cX10_comes 0 = .ok (.iload_n 1, 1) := by decide +kernel
theorem dX10_comes_1 : decode cX10_comes 1 = .ok (.iconst 1, 1) := by decide +kernel
theorem dX10_comes_2 : decode cX10_comes 2 = .ok (.bipush 8, 2) := by decide +kernel
theorem dX10_comes_4 : decode cX10_comes 4 = .ok (.invokestatic 98, 3) := by decide +kernel
theorem dX10_comes_7 : decode cX10_comes 7 = .ok (.ifCond .eq 22, 3) := by decide +kernel
theorem dX10_comes_10 : decode cX10_comes 10 = .ok (.iload_n 2, 1) := by decide +kernel
theorem dX10_comes_11 : decode cX10_comes 11 = .ok (.iconst 1, 1) := by decide +kernel
theorem dX10_comes_12 : decode cX10_comes 12 = .ok (.bipush 9, 2) := by decide +kernel
theorem dX10_comes_14 : decode cX10_comes 14 = .ok (.invokestatic 98, 3) := by decide +kernel
theorem dX10_comes_17 : decode cX10_comes 17 = .ok (.ifCond .eq 12, 3) := by decide +kernel
theorem dX10_comes_20 : decode cX10_comes 20 = .ok (.iload_n 3, 1) := by decide +kernel
theorem dX10_comes_21 : decode cX10_comes 21 = .ok (.iconst 0, 1) := by decide +kernel
theorem dX10_comes_22 : decode cX10_comes 22 = .ok (.iconst 1, 1) := by decide +kernel
theorem dX10_comes_23 : decode cX10_comes 23 = .ok (.invokestatic 98, 3) := by decide +kernel
theorem dX10_comes_26 : decode cX10_comes 26 = .ok (.ifCond .ne 6, 3) := by decide +kernel
theorem dX10_comes_29 : decode cX10_comes 29 = .ok (.bipush (-102), 2) := by decide +kernel
theorem dX10_comes_31 : decode cX10_comes 31 = .ok (.ireturn, 1) := by decide +kernel
theorem dX10_comes_32 : decode cX10_comes 32 = .ok (.aload_n 0, 1) := by decide +kernel
theorem dX10_comes_33 : decode cX10_comes 33 = .ok (.getfield 140, 3) := by decide +kernel
theorem dX10_comes_36 : decode cX10_comes 36 = .ok (.ifCond .ne 8, 3) := by decide +kernel
theorem dX10_comes_39 : decode cX10_comes 39 = .ok (.bipush (-103), 2) := by decide +kernel
theorem dX10_comes_41 : decode cX10_comes 41 = .ok (.goto 10, 3) := by decide +kernel
theorem dX10_comes_44 : decode cX10_comes 44 = .ok (.aload_n 0, 1) := by decide +kernel
theorem dX10_comes_45 : decode cX10_comes 45 = .ok (.iload_n 1, 1) := by decide +kernel
theorem dX10_comes_46 : decode cX10_comes 46 = .ok (.iload_n 2, 1) := by decide +kernel
theorem dX10_comes_47 : decode cX10_comes 47 = .ok (.iload_n 3, 1) := by decide +kernel
theorem dX10_comes_48 : decode cX10_comes 48 = .ok (.invokevirtual 294, 3) := by decide +kernel
theorem dX10_comes_51 : decode cX10_comes 51 = .ok (.ireturn, 1) := by decide +kernel
theorem dX10_bestNow_0 : decode cX10_bestNow 0 = .ok (.iconst 1, 1) := by decide +kernel
theorem dX10_bestNow_1 : decode cX10_bestNow 1 = .ok (.istore_n 3, 1) := by decide +kernel
theorem dX10_bestNow_2 : decode cX10_bestNow 2 = .ok (.iconst (-1), 1) := by decide +kernel
theorem dX10_bestNow_3 : decode cX10_bestNow 3 = .ok (.istore 4, 2) := by decide +kernel
theorem dX10_bestNow_5 : decode cX10_bestNow 5 = .ok (.iconst 1, 1) := by decide +kernel
theorem dX10_bestNow_6 : decode cX10_bestNow 6 = .ok (.istore 5, 2) := by decide +kernel
theorem dX10_bestNow_8 : decode cX10_bestNow 8 = .ok (.iload 5, 2) := by decide +kernel
theorem dX10_bestNow_10 : decode cX10_bestNow 10 = .ok (.bipush 9, 2) := by decide +kernel
theorem dX10_bestNow_12 : decode cX10_bestNow 12 = .ok (.if_icmp .gt 49, 3) := by decide +kernel
theorem dX10_bestNow_15 : decode cX10_bestNow 15 = .ok (.aload_n 0, 1) := by decide +kernel
theorem dX10_bestNow_16 : decode cX10_bestNow 16 = .ok (.iload_n 1, 1) := by decide +kernel
theorem dX10_bestNow_17 : decode cX10_bestNow 17 = .ok (.iload 5, 2) := by decide +kernel
theorem dX10_bestNow_19 : decode cX10_bestNow 19 = .ok (.iload_n 2, 1) := by decide +kernel
theorem dX10_bestNow_20 : decode cX10_bestNow 20 = .ok (.invokevirtual 294, 3) := by decide +kernel
theorem dX10_bestNow_23 : decode cX10_bestNow 23 = .ok (.istore 6, 2) := by decide +kernel
theorem dX10_bestNow_25 : decode cX10_bestNow 25 = .ok (.iload 6, 2) := by decide +kernel
theorem dX10_bestNow_27 : decode cX10_bestNow 27 = .ok (.iload 4, 2) := by decide +kernel
theorem dX10_bestNow_29 : decode cX10_bestNow 29 = .ok (.if_icmp .le 8, 3) := by decide +kernel
theorem dX10_bestNow_32 : decode cX10_bestNow 32 = .ok (.iload 5, 2) := by decide +kernel
theorem dX10_bestNow_34 : decode cX10_bestNow 34 = .ok (.goto 4, 3) := by decide +kernel
theorem dX10_bestNow_37 : decode cX10_bestNow 37 = .ok (.iload_n 3, 1) := by decide +kernel
theorem dX10_bestNow_38 : decode cX10_bestNow 38 = .ok (.istore_n 3, 1) := by decide +kernel
theorem dX10_bestNow_39 : decode cX10_bestNow 39 = .ok (.iload 6, 2) := by decide +kernel
theorem dX10_bestNow_41 : decode cX10_bestNow 41 = .ok (.iload 4, 2) := by decide +kernel
theorem dX10_bestNow_43 : decode cX10_bestNow 43 = .ok (.if_icmp .le 8, 3) := by decide +kernel
theorem dX10_bestNow_46 : decode cX10_bestNow 46 = .ok (.iload 6, 2) := by decide +kernel
theorem dX10_bestNow_48 : decode cX10_bestNow 48 = .ok (.goto 5, 3) := by decide +kernel
theorem dX10_bestNow_51 : decode cX10_bestNow 51 = .ok (.iload 4, 2) := by decide +kernel
theorem dX10_bestNow_53 : decode cX10_bestNow 53 = .ok (.istore 4, 2) := by decide +kernel
theorem dX10_bestNow_55 : decode cX10_bestNow 55 = .ok (.iinc 5 1, 3) := by decide +kernel
theorem dX10_bestNow_58 : decode cX10_bestNow 58 = .ok (.goto (-50), 3) := by decide +kernel
theorem dX10_bestNow_61 : decode cX10_bestNow 61 = .ok (.iload_n 3, 1) := by decide +kernel
theorem dX10_bestNow_62 : decode cX10_bestNow 62 = .ok (.ireturn, 1) := by decide +kernel
theorem dX10_best_0 : decode cX10_best 0 = .ok (.iload_n 1, 1) := by decide +kernel
theorem dX10_best_1 : decode cX10_best 1 = .ok (.iconst 1, 1) := by decide +kernel
theorem dX10_best_2 : decode cX10_best 2 = .ok (.bipush 8, 2) := by decide +kernel
theorem dX10_best_4 : decode cX10_best 4 = .ok (.invokestatic 98, 3) := by decide +kernel
theorem dX10_best_7 : decode cX10_best 7 = .ok (.ifCond .eq 12, 3) := by decide +kernel
theorem dX10_best_10 : decode cX10_best 10 = .ok (.iload_n 2, 1) := by decide +kernel
theorem dX10_best_11 : decode cX10_best 11 = .ok (.iconst 0, 1) := by decide +kernel
theorem dX10_best_12 : decode cX10_best 12 = .ok (.iconst 1, 1) := by decide +kernel
theorem dX10_best_13 : decode cX10_best 13 = .ok (.invokestatic 98, 3) := by decide +kernel
theorem dX10_best_16 : decode cX10_best 16 = .ok (.ifCond .ne 6, 3) := by decide +kernel
theorem dX10_best_19 : decode cX10_best 19 = .ok (.bipush (-102), 2) := by decide +kernel
theorem dX10_best_21 : decode cX10_best 21 = .ok (.ireturn, 1) := by decide +kernel
theorem dX10_best_22 : decode cX10_best 22 = .ok (.aload_n 0, 1) := by decide +kernel
theorem dX10_best_23 : decode cX10_best 23 = .ok (.getfield 140, 3) := by decide +kernel
theorem dX10_best_26 : decode cX10_best 26 = .ok (.ifCond .ne 8, 3) := by decide +kernel
theorem dX10_best_29 : decode cX10_best 29 = .ok (.bipush (-103), 2) := by decide +kernel
theorem dX10_best_31 : decode cX10_best 31 = .ok (.goto 9, 3) := by decide +kernel
theorem dX10_best_34 : decode cX10_best 34 = .ok (.aload_n 0, 1) := by decide +kernel
theorem dX10_best_35 : decode cX10_best 35 = .ok (.iload_n 1, 1) := by decide +kernel
theorem dX10_best_36 : decode cX10_best 36 = .ok (.iload_n 2, 1) := by decide +kernel
theorem dX10_best_37 : decode cX10_best 37 = .ok (.invokevirtual 298, 3) := by decide +kernel
theorem dX10_best_40 : decode cX10_best 40 = .ok (.ireturn, 1) := by decide +kernel
theorem dX10_likely_0 : decode cX10_likely 0 = .ok (.iload_n 1, 1) := by decide +kernel
theorem dX10_likely_1 : decode cX10_likely 1 = .ok (.ifCond .ne 7, 3) := by decide +kernel
theorem dX10_likely_4 : decode cX10_likely 4 = .ok (.sipush 420, 3) := by decide +kernel
theorem dX10_likely_7 : decode cX10_likely 7 = .ok (.ireturn, 1) := by decide +kernel
theorem dX10_likely_8 : decode cX10_likely 8 = .ok (.iconst 0, 1) := by decide +kernel
theorem dX10_likely_9 : decode cX10_likely 9 = .ok (.istore_n 2, 1) := by decide +kernel
theorem dX10_likely_10 : decode cX10_likely 10 = .ok (.iload_n 1, 1) := by decide +kernel
theorem dX10_likely_11 : decode cX10_likely 11 = .ok (.iconst 1, 1) := by decide +kernel
theorem dX10_likely_12 : decode cX10_likely 12 = .ok (.iadd, 1) := by decide +kernel
theorem dX10_likely_13 : decode cX10_likely 13 = .ok (.istore_n 3, 1) := by decide +kernel
theorem dX10_likely_14 : decode cX10_likely 14 = .ok (.iload_n 3, 1) := by decide +kernel
theorem dX10_likely_15 : decode cX10_likely 15 = .ok (.iload_n 0, 1) := by decide +kernel
theorem dX10_likely_16 : decode cX10_likely 16 = .ok (.if_icmp .gt 19, 3) := by decide +kernel
theorem dX10_likely_19 : decode cX10_likely 19 = .ok (.iload_n 2, 1) := by decide +kernel
theorem dX10_likely_20 : decode cX10_likely 20 = .ok (.sipush 420, 3) := by decide +kernel
theorem dX10_likely_23 : decode cX10_likely 23 = .ok (.iload_n 3, 1) := by decide +kernel
theorem dX10_likely_24 : decode cX10_likely 24 = .ok (.iconst 1, 1) := by decide +kernel
theorem dX10_likely_25 : decode cX10_likely 25 = .ok (.isub, 1) := by decide +kernel
theorem dX10_likely_26 : decode cX10_likely 26 = .ok (.idiv, 1) := by decide +kernel
theorem dX10_likely_27 : decode cX10_likely 27 = .ok (.iadd, 1) := by decide +kernel
theorem dX10_likely_28 : decode cX10_likely 28 = .ok (.istore_n 2, 1) := by decide +kernel
theorem dX10_likely_29 : decode cX10_likely 29 = .ok (.iinc 3 1, 3) := by decide +kernel
theorem dX10_likely_32 : decode cX10_likely 32 = .ok (.goto (-18), 3) := by decide +kernel
theorem dX10_likely_35 : decode cX10_likely 35 = .ok (.iload_n 1, 1) := by decide +kernel
theorem dX10_likely_36 : decode cX10_likely 36 = .ok (.iload_n 2, 1) := by decide +kernel
theorem dX10_likely_37 : decode cX10_likely 37 = .ok (.imul, 1) := by decide +kernel
theorem dX10_likely_38 : decode cX10_likely 38 = .ok (.ireturn, 1) := by decide +kernel
theorem dX10_waiting_0 : decode cX10_waiting 0 = .ok (.iload_n 1, 1) := by decide +kernel
theorem dX10_waiting_1 : decode cX10_waiting 1 = .ok (.iconst 2, 1) := by decide +kernel
theorem dX10_waiting_2 : decode cX10_waiting 2 = .ok (.bipush 8, 2) := by decide +kernel
theorem dX10_waiting_4 : decode cX10_waiting 4 = .ok (.invokestatic 98, 3) := by decide +kernel
theorem dX10_waiting_7 : decode cX10_waiting 7 = .ok (.ifCond .eq 23, 3) := by decide +kernel
theorem dX10_waiting_10 : decode cX10_waiting 10 = .ok (.iload_n 2, 1) := by decide +kernel
theorem dX10_waiting_11 : decode cX10_waiting 11 = .ok (.iconst 0, 1) := by decide +kernel
theorem dX10_waiting_12 : decode cX10_waiting 12 = .ok (.iload_n 1, 1) := by decide +kernel
theorem dX10_waiting_13 : decode cX10_waiting 13 = .ok (.iconst 1, 1) := by decide +kernel
theorem dX10_waiting_14 : decode cX10_waiting 14 = .ok (.isub, 1) := by decide +kernel
theorem dX10_waiting_15 : decode cX10_waiting 15 = .ok (.invokestatic 98, 3) := by decide +kernel
theorem dX10_waiting_18 : decode cX10_waiting 18 = .ok (.ifCond .eq 12, 3) := by decide +kernel
theorem dX10_waiting_21 : decode cX10_waiting 21 = .ok (.iload_n 3, 1) := by decide +kernel
theorem dX10_waiting_22 : decode cX10_waiting 22 = .ok (.iconst 0, 1) := by decide +kernel
theorem dX10_waiting_23 : decode cX10_waiting 23 = .ok (.iconst 1, 1) := by decide +kernel
theorem dX10_waiting_24 : decode cX10_waiting 24 = .ok (.invokestatic 98, 3) := by decide +kernel
theorem dX10_waiting_27 : decode cX10_waiting 27 = .ok (.ifCond .ne 6, 3) := by decide +kernel
theorem dX10_waiting_30 : decode cX10_waiting 30 = .ok (.bipush (-102), 2) := by decide +kernel
theorem dX10_waiting_32 : decode cX10_waiting 32 = .ok (.ireturn, 1) := by decide +kernel
theorem dX10_waiting_33 : decode cX10_waiting 33 = .ok (.iload_n 1, 1) := by decide +kernel
theorem dX10_waiting_34 : decode cX10_waiting 34 = .ok (.iload_n 2, 1) := by decide +kernel
theorem dX10_waiting_35 : decode cX10_waiting 35 = .ok (.invokestatic 301, 3) := by decide +kernel
theorem dX10_waiting_38 : decode cX10_waiting 38 = .ok (.istore 4, 2) := by decide +kernel
theorem dX10_waiting_40 : decode cX10_waiting 40 = .ok (.sipush 420, 3) := by decide +kernel
theorem dX10_waiting_43 : decode cX10_waiting 43 = .ok (.iload_n 1, 1) := by decide +kernel
theorem dX10_waiting_44 : decode cX10_waiting 44 = .ok (.imul, 1) := by decide +kernel
theorem dX10_waiting_45 : decode cX10_waiting 45 = .ok (.istore 5, 2) := by decide +kernel
theorem dX10_waiting_47 : decode cX10_waiting 47 = .ok (.iload 4, 2) := by decide +kernel
theorem dX10_waiting_49 : decode cX10_waiting 49 = .ok (.iload 5, 2) := by decide +kernel
theorem dX10_waiting_51 : decode cX10_waiting 51 = .ok (.invokestatic 304, 3) := by decide +kernel
theorem dX10_waiting_54 : decode cX10_waiting 54 = .ok (.istore 6, 2) := by decide +kernel
theorem dX10_waiting_56 : decode cX10_waiting 56 = .ok (.iload_n 3, 1) := by decide +kernel
theorem dX10_waiting_57 : decode cX10_waiting 57 = .ok (.ifCond .ne 11, 3) := by decide +kernel
theorem dX10_waiting_60 : decode cX10_waiting 60 = .ok (.iload 4, 2) := by decide +kernel
theorem dX10_waiting_62 : decode cX10_waiting 62 = .ok (.iload 6, 2) := by decide +kernel
theorem dX10_waiting_64 : decode cX10_waiting 64 = .ok (.idiv, 1) := by decide +kernel
theorem dX10_waiting_65 : decode cX10_waiting 65 = .ok (.goto 8, 3) := by decide +kernel
theorem dX10_waiting_68 : decode cX10_waiting 68 = .ok (.iload 5, 2) := by decide +kernel
theorem dX10_waiting_70 : decode cX10_waiting 70 = .ok (.iload 6, 2) := by decide +kernel
theorem dX10_waiting_72 : decode cX10_waiting 72 = .ok (.idiv, 1) := by decide +kernel
theorem dX10_waiting_73 : decode cX10_waiting 73 = .ok (.ireturn, 1) := by decide +kernel
theorem dX10_howMany_0 : decode cX10_howMany 0 = .ok (.iload_n 1, 1) := by decide +kernel
theorem dX10_howMany_1 : decode cX10_howMany 1 = .ok (.iconst 2, 1) := by decide +kernel
theorem dX10_howMany_2 : decode cX10_howMany 2 = .ok (.bipush 8, 2) := by decide +kernel
theorem dX10_howMany_4 : decode cX10_howMany 4 = .ok (.invokestatic 98, 3) := by decide +kernel
theorem dX10_howMany_7 : decode cX10_howMany 7 = .ok (.ifCond .ne 6, 3) := by decide +kernel
theorem dX10_howMany_10 : decode cX10_howMany 10 = .ok (.bipush (-102), 2) := by decide +kernel
theorem dX10_howMany_12 : decode cX10_howMany 12 = .ok (.ireturn, 1) := by decide +kernel
theorem dX10_howMany_13 : decode cX10_howMany 13 = .ok (.iconst 0, 1) := by decide +kernel
theorem dX10_howMany_14 : decode cX10_howMany 14 = .ok (.istore_n 2, 1) := by decide +kernel
theorem dX10_howMany_15 : decode cX10_howMany 15 = .ok (.iconst 1, 1) := by decide +kernel
theorem dX10_howMany_16 : decode cX10_howMany 16 = .ok (.istore_n 3, 1) := by decide +kernel
theorem dX10_howMany_17 : decode cX10_howMany 17 = .ok (.iload_n 3, 1) := by decide +kernel
theorem dX10_howMany_18 : decode cX10_howMany 18 = .ok (.iload_n 1, 1) := by decide +kernel
theorem dX10_howMany_19 : decode cX10_howMany 19 = .ok (.if_icmp .ge 28, 3) := by decide +kernel
theorem dX10_howMany_22 : decode cX10_howMany 22 = .ok (.iload_n 1, 1) := by decide +kernel
theorem dX10_howMany_23 : decode cX10_howMany 23 = .ok (.iload_n 3, 1) := by decide +kernel
theorem dX10_howMany_24 : decode cX10_howMany 24 = .ok (.invokestatic 301, 3) := by decide +kernel
theorem dX10_howMany_27 : decode cX10_howMany 27 = .ok (.iload_n 1, 1) := by decide +kernel
theorem dX10_howMany_28 : decode cX10_howMany 28 = .ok (.iload_n 2, 1) := by decide +kernel
theorem dX10_howMany_29 : decode cX10_howMany 29 = .ok (.invokestatic 301, 3) := by decide +kernel
theorem dX10_howMany_32 : decode cX10_howMany 32 = .ok (.if_icmp .le 7, 3) := by decide +kernel
theorem dX10_howMany_35 : decode cX10_howMany 35 = .ok (.iload_n 3, 1) := by decide +kernel
theorem dX10_howMany_36 : decode cX10_howMany 36 = .ok (.goto 4, 3) := by decide +kernel
theorem dX10_howMany_39 : decode cX10_howMany 39 = .ok (.iload_n 2, 1) := by decide +kernel
theorem dX10_howMany_40 : decode cX10_howMany 40 = .ok (.istore_n 2, 1) := by decide +kernel
theorem dX10_howMany_41 : decode cX10_howMany 41 = .ok (.iinc 3 1, 3) := by decide +kernel
theorem dX10_howMany_44 : decode cX10_howMany 44 = .ok (.goto (-27), 3) := by decide +kernel
theorem dX10_howMany_47 : decode cX10_howMany 47 = .ok (.iload_n 2, 1) := by decide +kernel
theorem dX10_howMany_48 : decode cX10_howMany 48 = .ok (.ireturn, 1) := by decide +kernel
theorem dX10_see_0 : decode cX10_see 0 = .ok (.aload_n 0, 1) := by decide +kernel
theorem dX10_see_1 : decode cX10_see 1 = .ok (.iload_n 1, 1) := by decide +kernel
theorem dX10_see_2 : decode cX10_see 2 = .ok (.iload_n 2, 1) := by decide +kernel
theorem dX10_see_3 : decode cX10_see 3 = .ok (.invokevirtual 208, 3) := by decide +kernel
theorem dX10_see_6 : decode cX10_see 6 = .ok (.ifCond .ne 6, 3) := by decide +kernel
theorem dX10_see_9 : decode cX10_see 9 = .ok (.bipush (-101), 2) := by decide +kernel
theorem dX10_see_11 : decode cX10_see 11 = .ok (.ireturn, 1) := by decide +kernel
theorem dX10_see_12 : decode cX10_see 12 = .ok (.aload_n 0, 1) := by decide +kernel
theorem dX10_see_13 : decode cX10_see 13 = .ok (.iload_n 1, 1) := by decide +kernel
theorem dX10_see_14 : decode cX10_see 14 = .ok (.iload_n 2, 1) := by decide +kernel
theorem dX10_see_15 : decode cX10_see 15 = .ok (.invokevirtual 174, 3) := by decide +kernel
theorem dX10_see_18 : decode cX10_see 18 = .ok (.ifCond .ne 6, 3) := by decide +kernel
theorem dX10_see_21 : decode cX10_see 21 = .ok (.bipush (-103), 2) := by decide +kernel
theorem dX10_see_23 : decode cX10_see 23 = .ok (.ireturn, 1) := by decide +kernel
theorem dX10_see_24 : decode cX10_see 24 = .ok (.aload_n 0, 1) := by decide +kernel
theorem dX10_see_25 : decode cX10_see 25 = .ok (.getfield 164, 3) := by decide +kernel
theorem dX10_see_28 : decode cX10_see 28 = .ok (.bipush 8, 2) := by decide +kernel
theorem dX10_see_30 : decode cX10_see 30 = .ok (.if_icmp .ne 6, 3) := by decide +kernel
theorem dX10_see_33 : decode cX10_see 33 = .ok (.bipush (-104), 2) := by decide +kernel
theorem dX10_see_35 : decode cX10_see 35 = .ok (.ireturn, 1) := by decide +kernel
theorem dX10_see_36 : decode cX10_see 36 = .ok (.aload_n 0, 1) := by decide +kernel
theorem dX10_see_37 : decode cX10_see 37 = .ok (.getfield 37, 3) := by decide +kernel
theorem dX10_see_40 : decode cX10_see 40 = .ok (.aload_n 0, 1) := by decide +kernel
theorem dX10_see_41 : decode cX10_see 41 = .ok (.getfield 164, 3) := by decide +kernel
theorem dX10_see_44 : decode cX10_see 44 = .ok (.iload_n 1, 1) := by decide +kernel
theorem dX10_see_45 : decode cX10_see 45 = .ok (.iastore, 1) := by decide +kernel
theorem dX10_see_46 : decode cX10_see 46 = .ok (.aload_n 0, 1) := by decide +kernel
theorem dX10_see_47 : decode cX10_see 47 = .ok (.getfield 40, 3) := by decide +kernel
theorem dX10_see_50 : decode cX10_see 50 = .ok (.aload_n 0, 1) := by decide +kernel
theorem dX10_see_51 : decode cX10_see 51 = .ok (.getfield 164, 3) := by decide +kernel
theorem dX10_see_54 : decode cX10_see 54 = .ok (.iload_n 2, 1) := by decide +kernel
theorem dX10_see_55 : decode cX10_see 55 = .ok (.iastore, 1) := by decide +kernel
theorem dX10_see_56 : decode cX10_see 56 = .ok (.aload_n 0, 1) := by decide +kernel
theorem dX10_see_57 : decode cX10_see 57 = .ok (.getfield 43, 3) := by decide +kernel
theorem dX10_see_60 : decode cX10_see 60 = .ok (.aload_n 0, 1) := by decide +kernel
theorem dX10_see_61 : decode cX10_see 61 = .ok (.getfield 164, 3) := by decide +kernel
theorem dX10_see_64 : decode cX10_see 64 = .ok (.iload_n 3, 1) := by decide +kernel
theorem dX10_see_65 : decode cX10_see 65 = .ok (.ifCond .eq 7, 3) := by decide +kernel
theorem dX10_see_68 : decode cX10_see 68 = .ok (.iconst 1, 1) := by decide +kernel
theorem dX10_see_69 : decode cX10_see 69 = .ok (.goto 4, 3) := by decide +kernel
theorem dX10_see_72 : decode cX10_see 72 = .ok (.iconst 0, 1) := by decide +kernel
theorem dX10_see_73 : decode cX10_see 73 = .ok (.iastore, 1) := by decide +kernel
theorem dX10_see_74 : decode cX10_see 74 = .ok (.aload_n 0, 1) := by decide +kernel
theorem dX10_see_75 : decode cX10_see 75 = .ok (.dup, 1) := by decide +kernel
theorem dX10_see_76 : decode cX10_see 76 = .ok (.getfield 164, 3) := by decide +kernel
theorem dX10_see_79 : decode cX10_see 79 = .ok (.iconst 1, 1) := by decide +kernel
theorem dX10_see_80 : decode cX10_see 80 = .ok (.iadd, 1) := by decide +kernel
theorem dX10_see_81 : decode cX10_see 81 = .ok (.putfield 164, 3) := by decide +kernel
theorem dX10_see_84 : decode cX10_see 84 = .ok (.aload_n 0, 1) := by decide +kernel
theorem dX10_see_85 : decode cX10_see 85 = .ok (.getfield 164, 3) := by decide +kernel
theorem dX10_see_88 : decode cX10_see 88 = .ok (.ireturn, 1) := by decide +kernel
theorem dX10_forget_0 : decode cX10_forget 0 = .ok (.aload_n 0, 1) := by decide +kernel
theorem dX10_forget_1 : decode cX10_forget 1 = .ok (.getfield 164, 3) := by decide +kernel
theorem dX10_forget_4 : decode cX10_forget 4 = .ok (.istore_n 1, 1) := by decide +kernel
theorem dX10_forget_5 : decode cX10_forget 5 = .ok (.aload_n 0, 1) := by decide +kernel
theorem dX10_forget_6 : decode cX10_forget 6 = .ok (.iconst 0, 1) := by decide +kernel
theorem dX10_forget_7 : decode cX10_forget 7 = .ok (.putfield 164, 3) := by decide +kernel
theorem dX10_forget_10 : decode cX10_forget 10 = .ok (.iload_n 1, 1) := by decide +kernel
theorem dX10_forget_11 : decode cX10_forget 11 = .ok (.ireturn, 1) := by decide +kernel
theorem dX10_wouldLike_0 : decode cX10_wouldLike 0 = .ok (.aload_n 0, 1) := by decide +kernel
theorem dX10_wouldLike_1 : decode cX10_wouldLike 1 = .ok (.getfield 7, 3) := by decide +kernel
theorem dX10_wouldLike_4 : decode cX10_wouldLike 4 = .ok (.iload_n 1, 1) := by decide +kernel
theorem dX10_wouldLike_5 : decode cX10_wouldLike 5 = .ok (.iaload, 1) := by decide +kernel
theorem dX10_wouldLike_6 : decode cX10_wouldLike 6 = .ok (.iconst 1, 1) := by decide +kernel
theorem dX10_wouldLike_7 : decode cX10_wouldLike 7 = .ok (.if_icmp .eq 12, 3) := by decide +kernel
theorem dX10_wouldLike_10 : decode cX10_wouldLike 10 = .ok (.aload_n 0, 1) := by decide +kernel
theorem dX10_wouldLike_11 : decode cX10_wouldLike 11 = .ok (.iload_n 3, 1) := by decide +kernel
theorem dX10_wouldLike_12 : decode cX10_wouldLike 12 = .ok (.invokevirtual 177, 3) := by decide +kernel
theorem dX10_wouldLike_15 : decode cX10_wouldLike 15 = .ok (.iload_n 2, 1) := by decide +kernel
theorem dX10_wouldLike_16 : decode cX10_wouldLike 16 = .ok (.if_icmp .lt 7, 3) := by decide +kernel
theorem dX10_wouldLike_19 : decode cX10_wouldLike 19 = .ok (.iconst 1, 1) := by decide +kernel
theorem dX10_wouldLike_20 : decode cX10_wouldLike 20 = .ok (.goto 4, 3) := by decide +kernel
theorem dX10_wouldLike_23 : decode cX10_wouldLike 23 = .ok (.iconst 0, 1) := by decide +kernel
theorem dX10_wouldLike_24 : decode cX10_wouldLike 24 = .ok (.ireturn, 1) := by decide +kernel
theorem dX10_choosiesOf_0 : decode cX10_choosiesOf 0 = .ok (.iconst 0, 1) := by decide +kernel
theorem dX10_choosiesOf_1 : decode cX10_choosiesOf 1 = .ok (.istore_n 2, 1) := by decide +kernel
theorem dX10_choosiesOf_2 : decode cX10_choosiesOf 2 = .ok (.iconst 0, 1) := by decide +kernel
theorem dX10_choosiesOf_3 : decode cX10_choosiesOf 3 = .ok (.istore_n 3, 1) := by decide +kernel
theorem dX10_choosiesOf_4 : decode cX10_choosiesOf 4 = .ok (.iload_n 3, 1) := by decide +kernel
theorem dX10_choosiesOf_5 : decode cX10_choosiesOf 5 = .ok (.bipush 9, 2) := by decide +kernel
theorem dX10_choosiesOf_7 : decode cX10_choosiesOf 7 = .ok (.if_icmp .gt 100, 3) := by decide +kernel
theorem dX10_choosiesOf_10 : decode cX10_choosiesOf 10 = .ok (.iconst 1, 1) := by decide +kernel
theorem dX10_choosiesOf_11 : decode cX10_choosiesOf 11 = .ok (.istore 4, 2) := by decide +kernel
theorem dX10_choosiesOf_13 : decode cX10_choosiesOf 13 = .ok (.iconst 0, 1) := by decide +kernel
theorem dX10_choosiesOf_14 : decode cX10_choosiesOf 14 = .ok (.istore 5, 2) := by decide +kernel
theorem dX10_choosiesOf_16 : decode cX10_choosiesOf 16 = .ok (.iload 5, 2) := by decide +kernel
theorem dX10_choosiesOf_18 : decode cX10_choosiesOf 18 = .ok (.aload_n 0, 1) := by decide +kernel
theorem dX10_choosiesOf_19 : decode cX10_choosiesOf 19 = .ok (.getfield 164, 3) := by decide +kernel
theorem dX10_choosiesOf_22 : decode cX10_choosiesOf 22 = .ok (.if_icmp .ge 64, 3) := by decide +kernel
theorem dX10_choosiesOf_25 : decode cX10_choosiesOf 25 = .ok (.iload 4, 2) := by decide +kernel
theorem dX10_choosiesOf_27 : decode cX10_choosiesOf 27 = .ok (.ifCond .eq 50, 3) := by decide +kernel
theorem dX10_choosiesOf_30 : decode cX10_choosiesOf 30 = .ok (.aload_n 0, 1) := by decide +kernel
theorem dX10_choosiesOf_31 : decode cX10_choosiesOf 31 = .ok (.getfield 37, 3) := by decide +kernel
theorem dX10_choosiesOf_34 : decode cX10_choosiesOf 34 = .ok (.iload 5, 2) := by decide +kernel
theorem dX10_choosiesOf_36 : decode cX10_choosiesOf 36 = .ok (.iaload, 1) := by decide +kernel
theorem dX10_choosiesOf_37 : decode cX10_choosiesOf 37 = .ok (.iload_n 1, 1) := by decide +kernel
theorem dX10_choosiesOf_38 : decode cX10_choosiesOf 38 = .ok (.if_icmp .ne 35, 3) := by decide +kernel
theorem dX10_choosiesOf_41 : decode cX10_choosiesOf 41 = .ok (.aload_n 0, 1) := by decide +kernel
theorem dX10_choosiesOf_42 : decode cX10_choosiesOf 42 = .ok (.iload_n 1, 1) := by decide +kernel
theorem dX10_choosiesOf_43 : decode cX10_choosiesOf 43 = .ok (.iload_n 3, 1) := by decide +kernel
theorem dX10_choosiesOf_44 : decode cX10_choosiesOf 44 = .ok (.aload_n 0, 1) := by decide +kernel
theorem dX10_choosiesOf_45 : decode cX10_choosiesOf 45 = .ok (.getfield 40, 3) := by decide +kernel
theorem dX10_choosiesOf_48 : decode cX10_choosiesOf 48 = .ok (.iload 5, 2) := by decide +kernel
theorem dX10_choosiesOf_50 : decode cX10_choosiesOf 50 = .ok (.iaload, 1) := by decide +kernel
theorem dX10_choosiesOf_51 : decode cX10_choosiesOf 51 = .ok (.invokevirtual 307, 3) := by decide +kernel
theorem dX10_choosiesOf_54 : decode cX10_choosiesOf 54 = .ok (.aload_n 0, 1) := by decide +kernel
theorem dX10_choosiesOf_55 : decode cX10_choosiesOf 55 = .ok (.getfield 43, 3) := by decide +kernel
theorem dX10_choosiesOf_58 : decode cX10_choosiesOf 58 = .ok (.iload 5, 2) := by decide +kernel
theorem dX10_choosiesOf_60 : decode cX10_choosiesOf 60 = .ok (.iaload, 1) := by decide +kernel
theorem dX10_choosiesOf_61 : decode cX10_choosiesOf 61 = .ok (.iconst 1, 1) := by decide +kernel
theorem dX10_choosiesOf_62 : decode cX10_choosiesOf 62 = .ok (.if_icmp .ne 7, 3) := by decide +kernel
theorem dX10_choosiesOf_65 : decode cX10_choosiesOf 65 = .ok (.iconst 1, 1) := by decide +kernel
theorem dX10_choosiesOf_66 : decode cX10_choosiesOf 66 = .ok (.goto 4, 3) := by decide +kernel
theorem dX10_choosiesOf_69 : decode cX10_choosiesOf 69 = .ok (.iconst 0, 1) := by decide +kernel
theorem dX10_choosiesOf_70 : decode cX10_choosiesOf 70 = .ok (.if_icmp .ne 7, 3) := by decide +kernel
theorem dX10_choosiesOf_73 : decode cX10_choosiesOf 73 = .ok (.iconst 1, 1) := by decide +kernel
theorem dX10_choosiesOf_74 : decode cX10_choosiesOf 74 = .ok (.goto 4, 3) := by decide +kernel
theorem dX10_choosiesOf_77 : decode cX10_choosiesOf 77 = .ok (.iconst 0, 1) := by decide +kernel
theorem dX10_choosiesOf_78 : decode cX10_choosiesOf 78 = .ok (.istore 4, 2) := by decide +kernel
theorem dX10_choosiesOf_80 : decode cX10_choosiesOf 80 = .ok (.iinc 5 1, 3) := by decide +kernel
theorem dX10_choosiesOf_83 : decode cX10_choosiesOf 83 = .ok (.goto (-67), 3) := by decide +kernel
theorem dX10_choosiesOf_86 : decode cX10_choosiesOf 86 = .ok (.iload_n 2, 1) := by decide +kernel
theorem dX10_choosiesOf_87 : decode cX10_choosiesOf 87 = .ok (.iload 4, 2) := by decide +kernel
theorem dX10_choosiesOf_89 : decode cX10_choosiesOf 89 = .ok (.ifCond .eq 9, 3) := by decide +kernel
theorem dX10_choosiesOf_92 : decode cX10_choosiesOf 92 = .ok (.iconst 1, 1) := by decide +kernel
theorem dX10_choosiesOf_93 : decode cX10_choosiesOf 93 = .ok (.iload_n 3, 1) := by decide +kernel
theorem dX10_choosiesOf_94 : decode cX10_choosiesOf 94 = .ok (.ishl, 1) := by decide +kernel
theorem dX10_choosiesOf_95 : decode cX10_choosiesOf 95 = .ok (.goto 4, 3) := by decide +kernel
theorem dX10_choosiesOf_98 : decode cX10_choosiesOf 98 = .ok (.iconst 0, 1) := by decide +kernel
theorem dX10_choosiesOf_99 : decode cX10_choosiesOf 99 = .ok (.ior, 1) := by decide +kernel
theorem dX10_choosiesOf_100 : decode cX10_choosiesOf 100 = .ok (.istore_n 2, 1) := by decide +kernel
theorem dX10_choosiesOf_101 : decode cX10_choosiesOf 101 = .ok (.iinc 3 1, 3) := by decide +kernel
theorem dX10_choosiesOf_104 : decode cX10_choosiesOf 104 = .ok (.goto (-100), 3) := by decide +kernel
theorem dX10_choosiesOf_107 : decode cX10_choosiesOf 107 = .ok (.iload_n 2, 1) := by decide +kernel
theorem dX10_choosiesOf_108 : decode cX10_choosiesOf 108 = .ok (.ireturn, 1) := by decide +kernel
theorem dX10_askFor_0 : decode cX10_askFor 0 = .ok (.aload_n 0, 1) := by decide +kernel
theorem dX10_askFor_1 : decode cX10_askFor 1 = .ok (.iload_n 1, 1) := by decide +kernel
theorem dX10_askFor_2 : decode cX10_askFor 2 = .ok (.invokevirtual 195, 3) := by decide +kernel
theorem dX10_askFor_5 : decode cX10_askFor 5 = .ok (.istore_n 2, 1) := by decide +kernel
theorem dX10_askFor_6 : decode cX10_askFor 6 = .ok (.iconst (-1), 1) := by decide +kernel
theorem dX10_askFor_7 : decode cX10_askFor 7 = .ok (.istore_n 3, 1) := by decide +kernel
theorem dX10_askFor_8 : decode cX10_askFor 8 = .ok (.ldc_w 310, 3) := by decide +kernel
theorem dX10_askFor_11 : decode cX10_askFor 11 = .ok (.istore 4, 2) := by decide +kernel
theorem dX10_askFor_13 : decode cX10_askFor 13 = .ok (.iconst 0, 1) := by decide +kernel
theorem dX10_askFor_14 : decode cX10_askFor 14 = .ok (.istore 5, 2) := by decide +kernel
theorem dX10_askFor_16 : decode cX10_askFor 16 = .ok (.iload 5, 2) := by decide +kernel
theorem dX10_askFor_18 : decode cX10_askFor 18 = .ok (.aload_n 0, 1) := by decide +kernel
theorem dX10_askFor_19 : decode cX10_askFor 19 = .ok (.getfield 140, 3) := by decide +kernel
theorem dX10_askFor_22 : decode cX10_askFor 22 = .ok (.if_icmp .ge 134, 3) := by decide +kernel
theorem dX10_askFor_25 : decode cX10_askFor 25 = .ok (.iload_n 2, 1) := by decide +kernel
theorem dX10_askFor_26 : decode cX10_askFor 26 = .ok (.ifCond .eq 130, 3) := by decide +kernel
theorem dX10_askFor_29 : decode cX10_askFor 29 = .ok (.iconst 0, 1) := by decide +kernel
theorem dX10_askFor_30 : decode cX10_askFor 30 = .ok (.istore 6, 2) := by decide +kernel
theorem dX10_askFor_32 : decode cX10_askFor 32 = .ok (.iconst 0, 1) := by decide +kernel
theorem dX10_askFor_33 : decode cX10_askFor 33 = .ok (.istore 7, 2) := by decide +kernel
theorem dX10_askFor_35 : decode cX10_askFor 35 = .ok (.iload 7, 2) := by decide +kernel
theorem dX10_askFor_37 : decode cX10_askFor 37 = .ok (.bipush 9, 2) := by decide +kernel
theorem dX10_askFor_39 : decode cX10_askFor 39 = .ok (.if_icmp .gt 40, 3) := by decide +kernel
theorem dX10_askFor_42 : decode cX10_askFor 42 = .ok (.iload 6, 2) := by decide +kernel
theorem dX10_askFor_44 : decode cX10_askFor 44 = .ok (.iload_n 2, 1) := by decide +kernel
theorem dX10_askFor_45 : decode cX10_askFor 45 = .ok (.iload 7, 2) := by decide +kernel
theorem dX10_askFor_47 : decode cX10_askFor 47 = .ok (.invokestatic 183, 3) := by decide +kernel
theorem dX10_askFor_50 : decode cX10_askFor 50 = .ok (.ifCond .eq 19, 3) := by decide +kernel
theorem dX10_askFor_53 : decode cX10_askFor 53 = .ok (.aload_n 0, 1) := by decide +kernel
theorem dX10_askFor_54 : decode cX10_askFor 54 = .ok (.iload_n 1, 1) := by decide +kernel
theorem dX10_askFor_55 : decode cX10_askFor 55 = .ok (.iload 7, 2) := by decide +kernel
theorem dX10_askFor_57 : decode cX10_askFor 57 = .ok (.iload 5, 2) := by decide +kernel
theorem dX10_askFor_59 : decode cX10_askFor 59 = .ok (.invokevirtual 307, 3) := by decide +kernel
theorem dX10_askFor_62 : decode cX10_askFor 62 = .ok (.ifCond .eq 7, 3) := by decide +kernel
theorem dX10_askFor_65 : decode cX10_askFor 65 = .ok (.iconst 1, 1) := by decide +kernel
theorem dX10_askFor_66 : decode cX10_askFor 66 = .ok (.goto 4, 3) := by decide +kernel
theorem dX10_askFor_69 : decode cX10_askFor 69 = .ok (.iconst 0, 1) := by decide +kernel
theorem dX10_askFor_70 : decode cX10_askFor 70 = .ok (.iadd, 1) := by decide +kernel
theorem dX10_askFor_71 : decode cX10_askFor 71 = .ok (.istore 6, 2) := by decide +kernel
theorem dX10_askFor_73 : decode cX10_askFor 73 = .ok (.iinc 7 1, 3) := by decide +kernel
theorem dX10_askFor_76 : decode cX10_askFor 76 = .ok (.goto (-41), 3) := by decide +kernel
theorem dX10_askFor_79 : decode cX10_askFor 79 = .ok (.iload_n 2, 1) := by decide +kernel
theorem dX10_askFor_80 : decode cX10_askFor 80 = .ok (.invokestatic 279, 3) := by decide +kernel
theorem dX10_askFor_83 : decode cX10_askFor 83 = .ok (.iload 6, 2) := by decide +kernel
theorem dX10_askFor_85 : decode cX10_askFor 85 = .ok (.isub, 1) := by decide +kernel
theorem dX10_askFor_86 : decode cX10_askFor 86 = .ok (.istore 7, 2) := by decide +kernel
theorem dX10_askFor_88 : decode cX10_askFor 88 = .ok (.aload_n 0, 1) := by decide +kernel
theorem dX10_askFor_89 : decode cX10_askFor 89 = .ok (.iload_n 1, 1) := by decide +kernel
theorem dX10_askFor_90 : decode cX10_askFor 90 = .ok (.iload 5, 2) := by decide +kernel
theorem dX10_askFor_92 : decode cX10_askFor 92 = .ok (.invokevirtual 174, 3) := by decide +kernel
theorem dX10_askFor_95 : decode cX10_askFor 95 = .ok (.ifCond .ne 9, 3) := by decide +kernel
theorem dX10_askFor_98 : decode cX10_askFor 98 = .ok (.ldc_w 310, 3) := by decide +kernel
theorem dX10_askFor_101 : decode cX10_askFor 101 = .ok (.goto 17, 3) := by decide +kernel
theorem dX10_askFor_104 : decode cX10_askFor 104 = .ok (.iload 6, 2) := by decide +kernel
theorem dX10_askFor_106 : decode cX10_askFor 106 = .ok (.iload 7, 2) := by decide +kernel
theorem dX10_askFor_108 : decode cX10_askFor 108 = .ok (.if_icmp .le 8, 3) := by decide +kernel
theorem dX10_askFor_111 : decode cX10_askFor 111 = .ok (.iload 6, 2) := by decide +kernel
theorem dX10_askFor_113 : decode cX10_askFor 113 = .ok (.goto 5, 3) := by decide +kernel
theorem dX10_askFor_116 : decode cX10_askFor 116 = .ok (.iload 7, 2) := by decide +kernel
theorem dX10_askFor_118 : decode cX10_askFor 118 = .ok (.istore 8, 2) := by decide +kernel
theorem dX10_askFor_120 : decode cX10_askFor 120 = .ok (.iload 8, 2) := by decide +kernel
theorem dX10_askFor_122 : decode cX10_askFor 122 = .ok (.iload 4, 2) := by decide +kernel
theorem dX10_askFor_124 : decode cX10_askFor 124 = .ok (.if_icmp .ge 8, 3) := by decide +kernel
theorem dX10_askFor_127 : decode cX10_askFor 127 = .ok (.iload 5, 2) := by decide +kernel
theorem dX10_askFor_129 : decode cX10_askFor 129 = .ok (.goto 4, 3) := by decide +kernel
theorem dX10_askFor_132 : decode cX10_askFor 132 = .ok (.iload_n 3, 1) := by decide +kernel
theorem dX10_askFor_133 : decode cX10_askFor 133 = .ok (.istore_n 3, 1) := by decide +kernel
theorem dX10_askFor_134 : decode cX10_askFor 134 = .ok (.iload 8, 2) := by decide +kernel
theorem dX10_askFor_136 : decode cX10_askFor 136 = .ok (.iload 4, 2) := by decide +kernel
theorem dX10_askFor_138 : decode cX10_askFor 138 = .ok (.if_icmp .ge 8, 3) := by decide +kernel
theorem dX10_askFor_141 : decode cX10_askFor 141 = .ok (.iload 8, 2) := by decide +kernel
theorem dX10_askFor_143 : decode cX10_askFor 143 = .ok (.goto 5, 3) := by decide +kernel
theorem dX10_askFor_146 : decode cX10_askFor 146 = .ok (.iload 4, 2) := by decide +kernel
theorem dX10_askFor_148 : decode cX10_askFor 148 = .ok (.istore 4, 2) := by decide +kernel
theorem dX10_askFor_150 : decode cX10_askFor 150 = .ok (.iinc 5 1, 3) := by decide +kernel
theorem dX10_askFor_153 : decode cX10_askFor 153 = .ok (.goto (-137), 3) := by decide +kernel
theorem dX10_askFor_156 : decode cX10_askFor 156 = .ok (.iload_n 3, 1) := by decide +kernel
theorem dX10_askFor_157 : decode cX10_askFor 157 = .ok (.ireturn, 1) := by decide +kernel
theorem dX10_draw_0 : decode cX10_draw 0 = .ok (.aload_n 0, 1) := by decide +kernel
theorem dX10_draw_1 : decode cX10_draw 1 = .ok (.ldc2_w 311, 3) := by decide +kernel
theorem dX10_draw_4 : decode cX10_draw 4 = .ok (.aload_n 0, 1) := by decide +kernel
theorem dX10_draw_5 : decode cX10_draw 5 = .ok (.getfield 313, 3) := by decide +kernel
theorem dX10_draw_8 : decode cX10_draw 8 = .ok (.lmul, 1) := by decide +kernel
theorem dX10_draw_9 : decode cX10_draw 9 = .ok (.ldc2_w 317, 3) := by decide +kernel
theorem dX10_draw_12 : decode cX10_draw 12 = .ok (.ladd, 1) := by decide +kernel
theorem dX10_draw_13 : decode cX10_draw 13 = .ok (.ldc2_w 319, 3) := by decide +kernel
theorem dX10_draw_16 : decode cX10_draw 16 = .ok (.land, 1) := by decide +kernel
theorem dX10_draw_17 : decode cX10_draw 17 = .ok (.putfield 313, 3) := by decide +kernel
theorem dX10_draw_20 : decode cX10_draw 20 = .ok (.aload_n 0, 1) := by decide +kernel
theorem dX10_draw_21 : decode cX10_draw 21 = .ok (.getfield 313, 3) := by decide +kernel
theorem dX10_draw_24 : decode cX10_draw 24 = .ok (.ldc2_w 321, 3) := by decide +kernel
theorem dX10_draw_27 : decode cX10_draw 27 = .ok (.ldiv, 1) := by decide +kernel
theorem dX10_draw_28 : decode cX10_draw 28 = .ok (.iload_n 1, 1) := by decide +kernel
theorem dX10_draw_29 : decode cX10_draw 29 = .ok (.i2l, 1) := by decide +kernel
theorem dX10_draw_30 : decode cX10_draw 30 = .ok (.lrem, 1) := by decide +kernel
theorem dX10_draw_31 : decode cX10_draw 31 = .ok (.l2i, 1) := by decide +kernel
theorem dX10_draw_32 : decode cX10_draw 32 = .ok (.ireturn, 1) := by decide +kernel
theorem dX10_seasonsNow_0 : decode cX10_seasonsNow 0 = .ok (.aload_n 0, 1) := by decide +kernel
theorem dX10_seasonsNow_1 : decode cX10_seasonsNow 1 = .ok (.iload_n 2, 1) := by decide +kernel
theorem dX10_seasonsNow_2 : decode cX10_seasonsNow 2 = .ok (.i2l, 1) := by decide +kernel
theorem dX10_seasonsNow_3 : decode cX10_seasonsNow 3 = .ok (.putfield 313, 3) := by decide +kernel
theorem dX10_seasonsNow_6 : decode cX10_seasonsNow 6 = .ok (.iconst 0, 1) := by decide +kernel
theorem dX10_seasonsNow_7 : decode cX10_seasonsNow 7 = .ok (.istore 4, 2) := by decide +kernel
theorem dX10_seasonsNow_9 : decode cX10_seasonsNow 9 = .ok (.iconst 0, 1) := by decide +kernel
theorem dX10_seasonsNow_10 : decode cX10_seasonsNow 10 = .ok (.istore 5, 2) := by decide +kernel
theorem dX10_seasonsNow_12 : decode cX10_seasonsNow 12 = .ok (.iconst 0, 1) := by decide +kernel
theorem dX10_seasonsNow_13 : decode cX10_seasonsNow 13 = .ok (.istore 6, 2) := by decide +kernel
theorem dX10_seasonsNow_15 : decode cX10_seasonsNow 15 = .ok (.iload 6, 2) := by decide +kernel
theorem dX10_seasonsNow_17 : decode cX10_seasonsNow 17 = .ok (.iload_n 1, 1) := by decide +kernel
theorem dX10_seasonsNow_18 : decode cX10_seasonsNow 18 = .ok (.if_icmp .ge 134, 3) := by decide +kernel
theorem dX10_seasonsNow_21 : decode cX10_seasonsNow 21 = .ok (.aload_n 0, 1) := by decide +kernel
theorem dX10_seasonsNow_22 : decode cX10_seasonsNow 22 = .ok (.aload_n 0, 1) := by decide +kernel
theorem dX10_seasonsNow_23 : decode cX10_seasonsNow 23 = .ok (.getfield 137, 3) := by decide +kernel
theorem dX10_seasonsNow_26 : decode cX10_seasonsNow 26 = .ok (.invokevirtual 323, 3) := by decide +kernel
theorem dX10_seasonsNow_29 : decode cX10_seasonsNow 29 = .ok (.istore 7, 2) := by decide +kernel
theorem dX10_seasonsNow_31 : decode cX10_seasonsNow 31 = .ok (.aload_n 0, 1) := by decide +kernel
theorem dX10_seasonsNow_32 : decode cX10_seasonsNow 32 = .ok (.getfield 137, 3) := by decide +kernel
theorem dX10_seasonsNow_35 : decode cX10_seasonsNow 35 = .ok (.aload_n 0, 1) := by decide +kernel
theorem dX10_seasonsNow_36 : decode cX10_seasonsNow 36 = .ok (.aload_n 0, 1) := by decide +kernel
theorem dX10_seasonsNow_37 : decode cX10_seasonsNow 37 = .ok (.getfield 140, 3) := by decide +kernel
theorem dX10_seasonsNow_40 : decode cX10_seasonsNow 40 = .ok (.aload_n 0, 1) := by decide +kernel
theorem dX10_seasonsNow_41 : decode cX10_seasonsNow 41 = .ok (.getfield 137, 3) := by decide +kernel
theorem dX10_seasonsNow_44 : decode cX10_seasonsNow 44 = .ok (.isub, 1) := by decide +kernel
theorem dX10_seasonsNow_45 : decode cX10_seasonsNow 45 = .ok (.invokevirtual 323, 3) := by decide +kernel
theorem dX10_seasonsNow_48 : decode cX10_seasonsNow 48 = .ok (.iadd, 1) := by decide +kernel
theorem dX10_seasonsNow_49 : decode cX10_seasonsNow 49 = .ok (.istore 8, 2) := by decide +kernel
theorem dX10_seasonsNow_51 : decode cX10_seasonsNow 51 = .ok (.aload_n 0, 1) := by decide +kernel
theorem dX10_seasonsNow_52 : decode cX10_seasonsNow 52 = .ok (.getfield 13, 3) := by decide +kernel
theorem dX10_seasonsNow_55 : decode cX10_seasonsNow 55 = .ok (.iload 7, 2) := by decide +kernel
theorem dX10_seasonsNow_57 : decode cX10_seasonsNow 57 = .ok (.iaload, 1) := by decide +kernel
theorem dX10_seasonsNow_58 : decode cX10_seasonsNow 58 = .ok (.aload_n 0, 1) := by decide +kernel
theorem dX10_seasonsNow_59 : decode cX10_seasonsNow 59 = .ok (.getfield 13, 3) := by decide +kernel
theorem dX10_seasonsNow_62 : decode cX10_seasonsNow 62 = .ok (.iload 8, 2) := by decide +kernel
theorem dX10_seasonsNow_64 : decode cX10_seasonsNow 64 = .ok (.iaload, 1) := by decide +kernel
theorem dX10_seasonsNow_65 : decode cX10_seasonsNow 65 = .ok (.if_icmp .le 21, 3) := by decide +kernel
theorem dX10_seasonsNow_68 : decode cX10_seasonsNow 68 = .ok (.aload_n 0, 1) := by decide +kernel
theorem dX10_seasonsNow_69 : decode cX10_seasonsNow 69 = .ok (.getfield 13, 3) := by decide +kernel
theorem dX10_seasonsNow_72 : decode cX10_seasonsNow 72 = .ok (.iload 7, 2) := by decide +kernel
theorem dX10_seasonsNow_74 : decode cX10_seasonsNow 74 = .ok (.iaload, 1) := by decide +kernel
theorem dX10_seasonsNow_75 : decode cX10_seasonsNow 75 = .ok (.aload_n 0, 1) := by decide +kernel
theorem dX10_seasonsNow_76 : decode cX10_seasonsNow 76 = .ok (.getfield 13, 3) := by decide +kernel
theorem dX10_seasonsNow_79 : decode cX10_seasonsNow 79 = .ok (.iload 8, 2) := by decide +kernel
theorem dX10_seasonsNow_81 : decode cX10_seasonsNow 81 = .ok (.iaload, 1) := by decide +kernel
theorem dX10_seasonsNow_82 : decode cX10_seasonsNow 82 = .ok (.isub, 1) := by decide +kernel
theorem dX10_seasonsNow_83 : decode cX10_seasonsNow 83 = .ok (.goto 18, 3) := by decide +kernel
theorem dX10_seasonsNow_86 : decode cX10_seasonsNow 86 = .ok (.aload_n 0, 1) := by decide +kernel
theorem dX10_seasonsNow_87 : decode cX10_seasonsNow 87 = .ok (.getfield 13, 3) := by decide +kernel
theorem dX10_seasonsNow_90 : decode cX10_seasonsNow 90 = .ok (.iload 8, 2) := by decide +kernel
theorem dX10_seasonsNow_92 : decode cX10_seasonsNow 92 = .ok (.iaload, 1) := by decide +kernel
theorem dX10_seasonsNow_93 : decode cX10_seasonsNow 93 = .ok (.aload_n 0, 1) := by decide +kernel
theorem dX10_seasonsNow_94 : decode cX10_seasonsNow 94 = .ok (.getfield 13, 3) := by decide +kernel
theorem dX10_seasonsNow_97 : decode cX10_seasonsNow 97 = .ok (.iload 7, 2) := by decide +kernel
theorem dX10_seasonsNow_99 : decode cX10_seasonsNow 99 = .ok (.iaload, 1) := by decide +kernel
theorem dX10_seasonsNow_100 : decode cX10_seasonsNow 100 = .ok (.isub, 1) := by decide +kernel
theorem dX10_seasonsNow_101 : decode cX10_seasonsNow 101 = .ok (.istore 9, 2) := by decide +kernel
theorem dX10_seasonsNow_103 : decode cX10_seasonsNow 103 = .ok (.iload 4, 2) := by decide +kernel
theorem dX10_seasonsNow_105 : decode cX10_seasonsNow 105 = .ok (.aload_n 0, 1) := by decide +kernel
theorem dX10_seasonsNow_106 : decode cX10_seasonsNow 106 = .ok (.iload 7, 2) := by decide +kernel
theorem dX10_seasonsNow_108 : decode cX10_seasonsNow 108 = .ok (.iload 8, 2) := by decide +kernel
theorem dX10_seasonsNow_110 : decode cX10_seasonsNow 110 = .ok (.invokevirtual 227, 3) := by decide +kernel
theorem dX10_seasonsNow_113 : decode cX10_seasonsNow 113 = .ok (.ifCond .eq 7, 3) := by decide +kernel
theorem dX10_seasonsNow_116 : decode cX10_seasonsNow 116 = .ok (.iconst 1, 1) := by decide +kernel
theorem dX10_seasonsNow_117 : decode cX10_seasonsNow 117 = .ok (.goto 4, 3) := by decide +kernel
theorem dX10_seasonsNow_120 : decode cX10_seasonsNow 120 = .ok (.iconst 0, 1) := by decide +kernel
theorem dX10_seasonsNow_121 : decode cX10_seasonsNow 121 = .ok (.iadd, 1) := by decide +kernel
theorem dX10_seasonsNow_122 : decode cX10_seasonsNow 122 = .ok (.istore 4, 2) := by decide +kernel
theorem dX10_seasonsNow_124 : decode cX10_seasonsNow 124 = .ok (.iload 5, 2) := by decide +kernel
theorem dX10_seasonsNow_126 : decode cX10_seasonsNow 126 = .ok (.aload_n 0, 1) := by decide +kernel
theorem dX10_seasonsNow_127 : decode cX10_seasonsNow 127 = .ok (.iload 7, 2) := by decide +kernel
theorem dX10_seasonsNow_129 : decode cX10_seasonsNow 129 = .ok (.iload 8, 2) := by decide +kernel
theorem dX10_seasonsNow_131 : decode cX10_seasonsNow 131 = .ok (.invokevirtual 227, 3) := by decide +kernel
theorem dX10_seasonsNow_134 : decode cX10_seasonsNow 134 = .ok (.ifCond .eq 8, 3) := by decide +kernel
theorem dX10_seasonsNow_137 : decode cX10_seasonsNow 137 = .ok (.iload 9, 2) := by decide +kernel
theorem dX10_seasonsNow_139 : decode cX10_seasonsNow 139 = .ok (.goto 4, 3) := by decide +kernel
theorem dX10_seasonsNow_142 : decode cX10_seasonsNow 142 = .ok (.iconst 0, 1) := by decide +kernel
theorem dX10_seasonsNow_143 : decode cX10_seasonsNow 143 = .ok (.iadd, 1) := by decide +kernel
theorem dX10_seasonsNow_144 : decode cX10_seasonsNow 144 = .ok (.istore 5, 2) := by decide +kernel
theorem dX10_seasonsNow_146 : decode cX10_seasonsNow 146 = .ok (.iinc 6 1, 3) := by decide +kernel
theorem dX10_seasonsNow_149 : decode cX10_seasonsNow 149 = .ok (.goto (-134), 3) := by decide +kernel
theorem dX10_seasonsNow_152 : decode cX10_seasonsNow 152 = .ok (.iload_n 3, 1) := by decide +kernel
theorem dX10_seasonsNow_153 : decode cX10_seasonsNow 153 = .ok (.ifCond .ne 8, 3) := by decide +kernel
theorem dX10_seasonsNow_156 : decode cX10_seasonsNow 156 = .ok (.iload 4, 2) := by decide +kernel
theorem dX10_seasonsNow_158 : decode cX10_seasonsNow 158 = .ok (.goto 18, 3) := by decide +kernel
theorem dX10_seasonsNow_161 : decode cX10_seasonsNow 161 = .ok (.iload_n 3, 1) := by decide +kernel
theorem dX10_seasonsNow_162 : decode cX10_seasonsNow 162 = .ok (.iconst 1, 1) := by decide +kernel
theorem dX10_seasonsNow_163 : decode cX10_seasonsNow 163 = .ok (.if_icmp .ne 8, 3) := by decide +kernel
theorem dX10_seasonsNow_166 : decode cX10_seasonsNow 166 = .ok (.iload 5, 2) := by decide +kernel
theorem dX10_seasonsNow_168 : decode cX10_seasonsNow 168 = .ok (.goto 8, 3) := by decide +kernel
theorem dX10_seasonsNow_171 : decode cX10_seasonsNow 171 = .ok (.aload_n 0, 1) := by decide +kernel
theorem dX10_seasonsNow_172 : decode cX10_seasonsNow 172 = .ok (.getfield 313, 3) := by decide +kernel
theorem dX10_seasonsNow_175 : decode cX10_seasonsNow 175 = .ok (.l2i, 1) := by decide +kernel
theorem dX10_seasonsNow_176 : decode cX10_seasonsNow 176 = .ok (.ireturn, 1) := by decide +kernel
theorem dX10_seasons_0 : decode cX10_seasons 0 = .ok (.iload_n 1, 1) := by decide +kernel
theorem dX10_seasons_1 : decode cX10_seasons 1 = .ok (.iconst 1, 1) := by decide +kernel
theorem dX10_seasons_2 : decode cX10_seasons 2 = .ok (.bipush 60, 2) := by decide +kernel
theorem dX10_seasons_4 : decode cX10_seasons 4 = .ok (.invokestatic 98, 3) := by decide +kernel
theorem dX10_seasons_7 : decode cX10_seasons 7 = .ok (.ifCond .eq 16, 3) := by decide +kernel
theorem dX10_seasons_10 : decode cX10_seasons 10 = .ok (.iload_n 2, 1) := by decide +kernel
theorem dX10_seasons_11 : decode cX10_seasons 11 = .ok (.ifCond .lt 12, 3) := by decide +kernel
theorem dX10_seasons_14 : decode cX10_seasons 14 = .ok (.iload_n 3, 1) := by decide +kernel
theorem dX10_seasons_15 : decode cX10_seasons 15 = .ok (.iconst 0, 1) := by decide +kernel
theorem dX10_seasons_16 : decode cX10_seasons 16 = .ok (.iconst 2, 1) := by decide +kernel
theorem dX10_seasons_17 : decode cX10_seasons 17 = .ok (.invokestatic 98, 3) := by decide +kernel
theorem dX10_seasons_20 : decode cX10_seasons 20 = .ok (.ifCond .ne 6, 3) := by decide +kernel
theorem dX10_seasons_23 : decode cX10_seasons 23 = .ok (.bipush (-102), 2) := by decide +kernel
theorem dX10_seasons_25 : decode cX10_seasons 25 = .ok (.ireturn, 1) := by decide +kernel
theorem dX10_seasons_26 : decode cX10_seasons 26 = .ok (.aload_n 0, 1) := by decide +kernel
theorem dX10_seasons_27 : decode cX10_seasons 27 = .ok (.getfield 140, 3) := by decide +kernel
theorem dX10_seasons_30 : decode cX10_seasons 30 = .ok (.ifCond .ne 8, 3) := by decide +kernel
theorem dX10_seasons_33 : decode cX10_seasons 33 = .ok (.bipush (-103), 2) := by decide +kernel
theorem dX10_seasons_35 : decode cX10_seasons 35 = .ok (.goto 10, 3) := by decide +kernel
theorem dX10_seasons_38 : decode cX10_seasons 38 = .ok (.aload_n 0, 1) := by decide +kernel
theorem dX10_seasons_39 : decode cX10_seasons 39 = .ok (.iload_n 1, 1) := by decide +kernel
theorem dX10_seasons_40 : decode cX10_seasons 40 = .ok (.iload_n 2, 1) := by decide +kernel
theorem dX10_seasons_41 : decode cX10_seasons 41 = .ok (.iload_n 3, 1) := by decide +kernel
theorem dX10_seasons_42 : decode cX10_seasons 42 = .ok (.invokevirtual 326, 3) := by decide +kernel
theorem dX10_seasons_45 : decode cX10_seasons 45 = .ok (.ireturn, 1) := by decide +kernel
theorem dX10_image_0 : decode cX10_image 0 = .ok (.aload_n 0, 1) := by decide +kernel
theorem dX10_image_1 : decode cX10_image 1 = .ok (.getfield 140, 3) := by decide +kernel
theorem dX10_image_4 : decode cX10_image 4 = .ok (.ifCond .ne 6, 3) := by decide +kernel
theorem dX10_image_7 : decode cX10_image 7 = .ok (.bipush (-103), 2) := by decide +kernel
theorem dX10_image_9 : decode cX10_image 9 = .ok (.ireturn, 1) := by decide +kernel
theorem dX10_image_10 : decode cX10_image 10 = .ok (.aload_n 0, 1) := by decide +kernel
theorem dX10_image_11 : decode cX10_image 11 = .ok (.iconst 1, 1) := by decide +kernel
theorem dX10_image_12 : decode cX10_image 12 = .ok (.putfield 329, 3) := by decide +kernel
theorem dX10_image_15 : decode cX10_image 15 = .ok (.aload_n 0, 1) := by decide +kernel
theorem dX10_image_16 : decode cX10_image 16 = .ok (.aload_n 0, 1) := by decide +kernel
theorem dX10_image_17 : decode cX10_image 17 = .ok (.getfield 161, 3) := by decide +kernel
theorem dX10_image_20 : decode cX10_image 20 = .ok (.putfield 332, 3) := by decide +kernel
theorem dX10_image_23 : decode cX10_image 23 = .ok (.aload_n 0, 1) := by decide +kernel
theorem dX10_image_24 : decode cX10_image 24 = .ok (.aload_n 0, 1) := by decide +kernel
theorem dX10_image_25 : decode cX10_image 25 = .ok (.getfield 143, 3) := by decide +kernel
theorem dX10_image_28 : decode cX10_image 28 = .ok (.putfield 335, 3) := by decide +kernel
theorem dX10_image_31 : decode cX10_image 31 = .ok (.aload_n 0, 1) := by decide +kernel
theorem dX10_image_32 : decode cX10_image 32 = .ok (.aload_n 0, 1) := by decide +kernel
theorem dX10_image_33 : decode cX10_image 33 = .ok (.getfield 146, 3) := by decide +kernel
theorem dX10_image_36 : decode cX10_image 36 = .ok (.putfield 338, 3) := by decide +kernel
theorem dX10_image_39 : decode cX10_image 39 = .ok (.aload_n 0, 1) := by decide +kernel
theorem dX10_image_40 : decode cX10_image 40 = .ok (.aload_n 0, 1) := by decide +kernel
theorem dX10_image_41 : decode cX10_image 41 = .ok (.getfield 149, 3) := by decide +kernel
theorem dX10_image_44 : decode cX10_image 44 = .ok (.putfield 341, 3) := by decide +kernel
theorem dX10_image_47 : decode cX10_image 47 = .ok (.aload_n 0, 1) := by decide +kernel
theorem dX10_image_48 : decode cX10_image 48 = .ok (.aload_n 0, 1) := by decide +kernel
theorem dX10_image_49 : decode cX10_image 49 = .ok (.getfield 152, 3) := by decide +kernel
theorem dX10_image_52 : decode cX10_image 52 = .ok (.putfield 344, 3) := by decide +kernel
theorem dX10_image_55 : decode cX10_image 55 = .ok (.aload_n 0, 1) := by decide +kernel
theorem dX10_image_56 : decode cX10_image 56 = .ok (.aload_n 0, 1) := by decide +kernel
theorem dX10_image_57 : decode cX10_image 57 = .ok (.getfield 155, 3) := by decide +kernel
theorem dX10_image_60 : decode cX10_image 60 = .ok (.putfield 347, 3) := by decide +kernel
theorem dX10_image_63 : decode cX10_image 63 = .ok (.aload_n 0, 1) := by decide +kernel
theorem dX10_image_64 : decode cX10_image 64 = .ok (.aload_n 0, 1) := by decide +kernel
theorem dX10_image_65 : decode cX10_image 65 = .ok (.getfield 158, 3) := by decide +kernel
theorem dX10_image_68 : decode cX10_image 68 = .ok (.putfield 350, 3) := by decide +kernel
theorem dX10_image_71 : decode cX10_image 71 = .ok (.aload_n 0, 1) := by decide +kernel
theorem dX10_image_72 : decode cX10_image 72 = .ok (.aload_n 0, 1) := by decide +kernel
theorem dX10_image_73 : decode cX10_image 73 = .ok (.getfield 164, 3) := by decide +kernel
theorem dX10_image_76 : decode cX10_image 76 = .ok (.putfield 353, 3) := by decide +kernel
theorem dX10_image_79 : decode cX10_image 79 = .ok (.iconst 0, 1) := by decide +kernel
theorem dX10_image_80 : decode cX10_image 80 = .ok (.istore_n 1, 1) := by decide +kernel
