theorem dX9_show_15 : decode cX9_show 15 = .ok (.iload_n 2, 1) := by decide +kernel
theorem dX9_show_16 : decode cX9_show 16 = .ok (.invokevirtual 77, 3) := by decide +kernel
theorem dX9_show_19 : decode cX9_show 19 = .ok (.ifCond .ne 6, 3) := by decide +kernel
theorem dX9_show_22 : decode cX9_show 22 = .ok (.bipush (-101), 2) := by decide +kernel
theorem dX9_show_24 : decode cX9_show 24 = .ok (.ireturn, 1) := by decide +kernel
theorem dX9_show_25 : decode cX9_show 25 = .ok (.aload_n 0, 1) := by decide +kernel
theorem dX9_show_26 : decode cX9_show 26 = .ok (.getfield 19, 3) := by decide +kernel
theorem dX9_show_29 : decode cX9_show 29 = .ok (.getfield 80, 3) := by decide +kernel
theorem dX9_show_32 : decode cX9_show 32 = .ok (.iload_n 1, 1) := by decide +kernel
theorem dX9_show_33 : decode cX9_show 33 = .ok (.aaload, 1) := by decide +kernel
theorem dX9_show_34 : decode cX9_show 34 = .ok (.astore_n 3, 1) := by decide +kernel
theorem dX9_show_35 : decode cX9_show 35 = .ok (.aload_n 0, 1) := by decide +kernel
theorem dX9_show_36 : decode cX9_show 36 = .ok (.getfield 19, 3) := by decide +kernel
theorem dX9_show_39 : decode cX9_show 39 = .ok (.getfield 80, 3) := by decide +kernel
theorem dX9_show_42 : decode cX9_show 42 = .ok (.iload_n 2, 1) := by decide +kernel
theorem dX9_show_43 : decode cX9_show 43 = .ok (.aaload, 1) := by decide +kernel
theorem dX9_show_44 : decode cX9_show 44 = .ok (.astore 4, 2) := by decide +kernel
theorem dX9_show_46 : decode cX9_show 46 = .ok (.aload_n 3, 1) := by decide +kernel
theorem dX9_show_47 : decode cX9_show 47 = .ok (.aload 4, 2) := by decide +kernel
theorem dX9_show_49 : decode cX9_show 49 = .ok (.invokevirtual 117, 3) := by decide +kernel
theorem dX9_show_52 : decode cX9_show 52 = .ok (.ifCond .ne 6, 3) := by decide +kernel
theorem dX9_show_55 : decode cX9_show 55 = .ok (.bipush (-103), 2) := by decide +kernel
theorem dX9_show_57 : decode cX9_show 57 = .ok (.ireturn, 1) := by decide +kernel
theorem dX9_show_58 : decode cX9_show 58 = .ok (.aload_n 0, 1) := by decide +kernel
theorem dX9_show_59 : decode cX9_show 59 = .ok (.getfield 19, 3) := by decide +kernel
theorem dX9_show_62 : decode cX9_show 62 = .ok (.aload_n 3, 1) := by decide +kernel
theorem dX9_show_63 : decode cX9_show 63 = .ok (.aload 4, 2) := by decide +kernel
theorem dX9_show_65 : decode cX9_show 65 = .ok (.invokevirtual 121, 3) := by decide +kernel
theorem dX9_show_68 : decode cX9_show 68 = .ok (.ifCond .ne 5, 3) := by decide +kernel
theorem dX9_show_71 : decode cX9_show 71 = .ok (.iconst 0, 1) := by decide +kernel
theorem dX9_show_72 : decode cX9_show 72 = .ok (.ireturn, 1) := by decide +kernel
theorem dX9_show_73 : decode cX9_show 73 = .ok (.aload_n 3, 1) := by decide +kernel
theorem dX9_show_74 : decode cX9_show 74 = .ok (.aload 4, 2) := by decide +kernel
theorem dX9_show_76 : decode cX9_show 76 = .ok (.invokevirtual 125, 3) := by decide +kernel
theorem dX9_show_79 : decode cX9_show 79 = .ok (.ifCond .eq 7, 3) := by decide +kernel
theorem dX9_show_82 : decode cX9_show 82 = .ok (.iconst 2, 1) := by decide +kernel
theorem dX9_show_83 : decode cX9_show 83 = .ok (.goto 4, 3) := by decide +kernel
theorem dX9_show_86 : decode cX9_show 86 = .ok (.iconst 1, 1) := by decide +kernel
theorem dX9_show_87 : decode cX9_show 87 = .ok (.ireturn, 1) := by decide +kernel
theorem dX9_back_0 : decode cX9_back 0 = .ok (.aload_n 0, 1) := by decide +kernel
theorem dX9_back_1 : decode cX9_back 1 = .ok (.getfield 19, 3) := by decide +kernel
theorem dX9_back_4 : decode cX9_back 4 = .ok (.iload_n 1, 1) := by decide +kernel
theorem dX9_back_5 : decode cX9_back 5 = .ok (.invokevirtual 77, 3) := by decide +kernel
theorem dX9_back_8 : decode cX9_back 8 = .ok (.ifCond .eq 14, 3) := by decide +kernel
theorem dX9_back_11 : decode cX9_back 11 = .ok (.aload_n 0, 1) := by decide +kernel
theorem dX9_back_12 : decode cX9_back 12 = .ok (.getfield 19, 3) := by decide +kernel
theorem dX9_back_15 : decode cX9_back 15 = .ok (.iload_n 2, 1) := by decide +kernel
theorem dX9_back_16 : decode cX9_back 16 = .ok (.invokevirtual 77, 3) := by decide +kernel
theorem dX9_back_19 : decode cX9_back 19 = .ok (.ifCond .ne 6, 3) := by decide +kernel
theorem dX9_back_22 : decode cX9_back 22 = .ok (.bipush (-101), 2) := by decide +kernel
theorem dX9_back_24 : decode cX9_back 24 = .ok (.ireturn, 1) := by decide +kernel
theorem dX9_back_25 : decode cX9_back 25 = .ok (.aload_n 0, 1) := by decide +kernel
theorem dX9_back_26 : decode cX9_back 26 = .ok (.getfield 19, 3) := by decide +kernel
theorem dX9_back_29 : decode cX9_back 29 = .ok (.getfield 80, 3) := by decide +kernel
theorem dX9_back_32 : decode cX9_back 32 = .ok (.iload_n 1, 1) := by decide +kernel
theorem dX9_back_33 : decode cX9_back 33 = .ok (.aaload, 1) := by decide +kernel
theorem dX9_back_34 : decode cX9_back 34 = .ok (.astore_n 3, 1) := by decide +kernel
theorem dX9_back_35 : decode cX9_back 35 = .ok (.aload_n 0, 1) := by decide +kernel
theorem dX9_back_36 : decode cX9_back 36 = .ok (.getfield 19, 3) := by decide +kernel
theorem dX9_back_39 : decode cX9_back 39 = .ok (.getfield 80, 3) := by decide +kernel
theorem dX9_back_42 : decode cX9_back 42 = .ok (.iload_n 2, 1) := by decide +kernel
theorem dX9_back_43 : decode cX9_back 43 = .ok (.aaload, 1) := by decide +kernel
theorem dX9_back_44 : decode cX9_back 44 = .ok (.astore 4, 2) := by decide +kernel
theorem dX9_back_46 : decode cX9_back 46 = .ok (.aload_n 3, 1) := by decide +kernel
theorem dX9_back_47 : decode cX9_back 47 = .ok (.aload 4, 2) := by decide +kernel
theorem dX9_back_49 : decode cX9_back 49 = .ok (.invokevirtual 128, 3) := by decide +kernel
theorem dX9_back_52 : decode cX9_back 52 = .ok (.ifCond .eq 12, 3) := by decide +kernel
theorem dX9_back_55 : decode cX9_back 55 = .ok (.aload_n 3, 1) := by decide +kernel
theorem dX9_back_56 : decode cX9_back 56 = .ok (.aload 4, 2) := by decide +kernel
theorem dX9_back_58 : decode cX9_back 58 = .ok (.invokevirtual 131, 3) := by decide +kernel
theorem dX9_back_61 : decode cX9_back 61 = .ok (.ifCond .eq 6, 3) := by decide +kernel
theorem dX9_back_64 : decode cX9_back 64 = .ok (.bipush (-103), 2) := by decide +kernel
theorem dX9_back_66 : decode cX9_back 66 = .ok (.ireturn, 1) := by decide +kernel
theorem dX9_back_67 : decode cX9_back 67 = .ok (.aload_n 3, 1) := by decide +kernel
theorem dX9_back_68 : decode cX9_back 68 = .ok (.aload 4, 2) := by decide +kernel
theorem dX9_back_70 : decode cX9_back 70 = .ok (.invokevirtual 134, 3) := by decide +kernel
theorem dX9_back_73 : decode cX9_back 73 = .ok (.ifCond .eq 7, 3) := by decide +kernel
theorem dX9_back_76 : decode cX9_back 76 = .ok (.iconst 1, 1) := by decide +kernel
theorem dX9_back_77 : decode cX9_back 77 = .ok (.goto 4, 3) := by decide +kernel
theorem dX9_back_80 : decode cX9_back 80 = .ok (.iconst 0, 1) := by decide +kernel
theorem dX9_back_81 : decode cX9_back 81 = .ok (.istore 5, 2) := by decide +kernel
theorem dX9_back_83 : decode cX9_back 83 = .ok (.aload_n 3, 1) := by decide +kernel
theorem dX9_back_84 : decode cX9_back 84 = .ok (.aload 4, 2) := by decide +kernel
theorem dX9_back_86 : decode cX9_back 86 = .ok (.invokevirtual 137, 3) := by decide +kernel
theorem dX9_back_89 : decode cX9_back 89 = .ok (.aload_n 0, 1) := by decide +kernel
theorem dX9_back_90 : decode cX9_back 90 = .ok (.getfield 19, 3) := by decide +kernel
theorem dX9_back_93 : decode cX9_back 93 = .ok (.dup, 1) := by decide +kernel
theorem dX9_back_94 : decode cX9_back 94 = .ok (.getfield 141, 3) := by decide +kernel
theorem dX9_back_97 : decode cX9_back 97 = .ok (.iconst 1, 1) := by decide +kernel
theorem dX9_back_98 : decode cX9_back 98 = .ok (.iadd, 1) := by decide +kernel
theorem dX9_back_99 : decode cX9_back 99 = .ok (.putfield 141, 3) := by decide +kernel
theorem dX9_back_102 : decode cX9_back 102 = .ok (.iload 5, 2) := by decide +kernel
theorem dX9_back_104 : decode cX9_back 104 = .ok (.ireturn, 1) := by decide +kernel
theorem dX9_day_0 : decode cX9_day 0 = .ok (.aload_n 0, 1) := by decide +kernel
theorem dX9_day_1 : decode cX9_day 1 = .ok (.getfield 19, 3) := by decide +kernel
theorem dX9_day_4 : decode cX9_day 4 = .ok (.invokevirtual 111, 3) := by decide +kernel
theorem dX9_day_7 : decode cX9_day 7 = .ok (.ifCond .eq 6, 3) := by decide +kernel
theorem dX9_day_10 : decode cX9_day 10 = .ok (.bipush (-103), 2) := by decide +kernel
theorem dX9_day_12 : decode cX9_day 12 = .ok (.ireturn, 1) := by decide +kernel
theorem dX9_day_13 : decode cX9_day 13 = .ok (.aload_n 0, 1) := by decide +kernel
theorem dX9_day_14 : decode cX9_day 14 = .ok (.getfield 19, 3) := by decide +kernel
theorem dX9_day_17 : decode cX9_day 17 = .ok (.getfield 144, 3) := by decide +kernel
theorem dX9_day_20 : decode cX9_day 20 = .ok (.bipush 99, 2) := by decide +kernel
theorem dX9_day_22 : decode cX9_day 22 = .ok (.if_icmp .lt 6, 3) := by decide +kernel
theorem dX9_day_25 : decode cX9_day 25 = .ok (.bipush (-104), 2) := by decide +kernel
theorem dX9_day_27 : decode cX9_day 27 = .ok (.ireturn, 1) := by decide +kernel
theorem dX9_day_28 : decode cX9_day 28 = .ok (.aload_n 0, 1) := by decide +kernel
theorem dX9_day_29 : decode cX9_day 29 = .ok (.getfield 19, 3) := by decide +kernel
theorem dX9_day_32 : decode cX9_day 32 = .ok (.dup, 1) := by decide +kernel
theorem dX9_day_33 : decode cX9_day 33 = .ok (.getfield 144, 3) := by decide +kernel
theorem dX9_day_36 : decode cX9_day 36 = .ok (.iconst 1, 1) := by decide +kernel
theorem dX9_day_37 : decode cX9_day 37 = .ok (.iadd, 1) := by decide +kernel
theorem dX9_day_38 : decode cX9_day 38 = .ok (.putfield 144, 3) := by decide +kernel
theorem dX9_day_41 : decode cX9_day 41 = .ok (.aload_n 0, 1) := by decide +kernel
theorem dX9_day_42 : decode cX9_day 42 = .ok (.getfield 19, 3) := by decide +kernel
theorem dX9_day_45 : decode cX9_day 45 = .ok (.invokevirtual 147, 3) := by decide +kernel
theorem dX9_day_48 : decode cX9_day 48 = .ok (.aload_n 0, 1) := by decide +kernel
theorem dX9_day_49 : decode cX9_day 49 = .ok (.getfield 19, 3) := by decide +kernel
theorem dX9_day_52 : decode cX9_day 52 = .ok (.getfield 144, 3) := by decide +kernel
theorem dX9_day_55 : decode cX9_day 55 = .ok (.ireturn, 1) := by decide +kernel
theorem dX9_meet_0 : decode cX9_meet 0 = .ok (.aload_n 0, 1) := by decide +kernel
theorem dX9_meet_1 : decode cX9_meet 1 = .ok (.getfield 19, 3) := by decide +kernel
theorem dX9_meet_4 : decode cX9_meet 4 = .ok (.iload_n 1, 1) := by decide +kernel
theorem dX9_meet_5 : decode cX9_meet 5 = .ok (.invokevirtual 77, 3) := by decide +kernel
theorem dX9_meet_8 : decode cX9_meet 8 = .ok (.ifCond .eq 14, 3) := by decide +kernel
theorem dX9_meet_11 : decode cX9_meet 11 = .ok (.aload_n 0, 1) := by decide +kernel
theorem dX9_meet_12 : decode cX9_meet 12 = .ok (.getfield 19, 3) := by decide +kernel
theorem dX9_meet_15 : decode cX9_meet 15 = .ok (.iload_n 2, 1) := by decide +kernel
theorem dX9_meet_16 : decode cX9_meet 16 = .ok (.invokevirtual 77, 3) := by decide +kernel
theorem dX9_meet_19 : decode cX9_meet 19 = .ok (.ifCond .ne 6, 3) := by decide +kernel
theorem dX9_meet_22 : decode cX9_meet 22 = .ok (.bipush (-101), 2) := by decide +kernel
theorem dX9_meet_24 : decode cX9_meet 24 = .ok (.ireturn, 1) := by decide +kernel
theorem dX9_meet_25 : decode cX9_meet 25 = .ok (.aload_n 0, 1) := by decide +kernel
theorem dX9_meet_26 : decode cX9_meet 26 = .ok (.getfield 19, 3) := by decide +kernel
theorem dX9_meet_29 : decode cX9_meet 29 = .ok (.getfield 80, 3) := by decide +kernel
theorem dX9_meet_32 : decode cX9_meet 32 = .ok (.iload_n 1, 1) := by decide +kernel
theorem dX9_meet_33 : decode cX9_meet 33 = .ok (.aaload, 1) := by decide +kernel
theorem dX9_meet_34 : decode cX9_meet 34 = .ok (.astore_n 3, 1) := by decide +kernel
theorem dX9_meet_35 : decode cX9_meet 35 = .ok (.aload_n 0, 1) := by decide +kernel
theorem dX9_meet_36 : decode cX9_meet 36 = .ok (.getfield 19, 3) := by decide +kernel
theorem dX9_meet_39 : decode cX9_meet 39 = .ok (.getfield 80, 3) := by decide +kernel
theorem dX9_meet_42 : decode cX9_meet 42 = .ok (.iload_n 2, 1) := by decide +kernel
theorem dX9_meet_43 : decode cX9_meet 43 = .ok (.aaload, 1) := by decide +kernel
theorem dX9_meet_44 : decode cX9_meet 44 = .ok (.astore 4, 2) := by decide +kernel
theorem dX9_meet_46 : decode cX9_meet 46 = .ok (.aload_n 3, 1) := by decide +kernel
theorem dX9_meet_47 : decode cX9_meet 47 = .ok (.aload 4, 2) := by decide +kernel
theorem dX9_meet_49 : decode cX9_meet 49 = .ok (.invokevirtual 125, 3) := by decide +kernel
theorem dX9_meet_52 : decode cX9_meet 52 = .ok (.ifCond .eq 18, 3) := by decide +kernel
theorem dX9_meet_55 : decode cX9_meet 55 = .ok (.aload_n 3, 1) := by decide +kernel
theorem dX9_meet_56 : decode cX9_meet 56 = .ok (.invokevirtual 150, 3) := by decide +kernel
theorem dX9_meet_59 : decode cX9_meet 59 = .ok (.ifCond .ne 11, 3) := by decide +kernel
theorem dX9_meet_62 : decode cX9_meet 62 = .ok (.aload 4, 2) := by decide +kernel
theorem dX9_meet_64 : decode cX9_meet 64 = .ok (.invokevirtual 150, 3) := by decide +kernel
theorem dX9_meet_67 : decode cX9_meet 67 = .ok (.ifCond .eq 6, 3) := by decide +kernel
theorem dX9_meet_70 : decode cX9_meet 70 = .ok (.bipush (-103), 2) := by decide +kernel
theorem dX9_meet_72 : decode cX9_meet 72 = .ok (.ireturn, 1) := by decide +kernel
theorem dX9_meet_73 : decode cX9_meet 73 = .ok (.aload_n 0, 1) := by decide +kernel
theorem dX9_meet_74 : decode cX9_meet 74 = .ok (.getfield 19, 3) := by decide +kernel
theorem dX9_meet_77 : decode cX9_meet 77 = .ok (.dup, 1) := by decide +kernel
theorem dX9_meet_78 : decode cX9_meet 78 = .ok (.getfield 153, 3) := by decide +kernel
theorem dX9_meet_81 : decode cX9_meet 81 = .ok (.iconst 1, 1) := by decide +kernel
theorem dX9_meet_82 : decode cX9_meet 82 = .ok (.iadd, 1) := by decide +kernel
theorem dX9_meet_83 : decode cX9_meet 83 = .ok (.putfield 153, 3) := by decide +kernel
theorem dX9_meet_86 : decode cX9_meet 86 = .ok (.aload_n 3, 1) := by decide +kernel
theorem dX9_meet_87 : decode cX9_meet 87 = .ok (.aload 4, 2) := by decide +kernel
theorem dX9_meet_89 : decode cX9_meet 89 = .ok (.getfield 156, 3) := by decide +kernel
theorem dX9_meet_92 : decode cX9_meet 92 = .ok (.invokevirtual 159, 3) := by decide +kernel
theorem dX9_meet_95 : decode cX9_meet 95 = .ok (.ifCond .eq 28, 3) := by decide +kernel
theorem dX9_meet_98 : decode cX9_meet 98 = .ok (.aload 4, 2) := by decide +kernel
theorem dX9_meet_100 : decode cX9_meet 100 = .ok (.aload_n 3, 1) := by decide +kernel
theorem dX9_meet_101 : decode cX9_meet 101 = .ok (.getfield 156, 3) := by decide +kernel
theorem dX9_meet_104 : decode cX9_meet 104 = .ok (.invokevirtual 159, 3) := by decide +kernel
theorem dX9_meet_107 : decode cX9_meet 107 = .ok (.ifCond .eq 16, 3) := by decide +kernel
theorem dX9_meet_110 : decode cX9_meet 110 = .ok (.aload_n 3, 1) := by decide +kernel
theorem dX9_meet_111 : decode cX9_meet 111 = .ok (.iload_n 2, 1) := by decide +kernel
theorem dX9_meet_112 : decode cX9_meet 112 = .ok (.putfield 162, 3) := by decide +kernel
theorem dX9_meet_115 : decode cX9_meet 115 = .ok (.aload 4, 2) := by decide +kernel
theorem dX9_meet_117 : decode cX9_meet 117 = .ok (.iload_n 1, 1) := by decide +kernel
theorem dX9_meet_118 : decode cX9_meet 118 = .ok (.putfield 162, 3) := by decide +kernel
theorem dX9_meet_121 : decode cX9_meet 121 = .ok (.iconst 1, 1) := by decide +kernel
theorem dX9_meet_122 : decode cX9_meet 122 = .ok (.ireturn, 1) := by decide +kernel
theorem dX9_meet_123 : decode cX9_meet 123 = .ok (.aload_n 3, 1) := by decide +kernel
theorem dX9_meet_124 : decode cX9_meet 124 = .ok (.aload 4, 2) := by decide +kernel
theorem dX9_meet_126 : decode cX9_meet 126 = .ok (.invokevirtual 165, 3) := by decide +kernel
theorem dX9_meet_129 : decode cX9_meet 129 = .ok (.aload 4, 2) := by decide +kernel
theorem dX9_meet_131 : decode cX9_meet 131 = .ok (.aload_n 3, 1) := by decide +kernel
theorem dX9_meet_132 : decode cX9_meet 132 = .ok (.invokevirtual 165, 3) := by decide +kernel
theorem dX9_meet_135 : decode cX9_meet 135 = .ok (.iconst 0, 1) := by decide +kernel
theorem dX9_meet_136 : decode cX9_meet 136 = .ok (.ireturn, 1) := by decide +kernel
theorem dX9_part_0 : decode cX9_part 0 = .ok (.aload_n 0, 1) := by decide +kernel
theorem dX9_part_1 : decode cX9_part 1 = .ok (.getfield 19, 3) := by decide +kernel
theorem dX9_part_4 : decode cX9_part 4 = .ok (.iload_n 1, 1) := by decide +kernel
theorem dX9_part_5 : decode cX9_part 5 = .ok (.invokevirtual 77, 3) := by decide +kernel
theorem dX9_part_8 : decode cX9_part 8 = .ok (.ifCond .ne 6, 3) := by decide +kernel
theorem dX9_part_11 : decode cX9_part 11 = .ok (.bipush (-101), 2) := by decide +kernel
theorem dX9_part_13 : decode cX9_part 13 = .ok (.ireturn, 1) := by decide +kernel
theorem dX9_part_14 : decode cX9_part 14 = .ok (.aload_n 0, 1) := by decide +kernel
theorem dX9_part_15 : decode cX9_part 15 = .ok (.getfield 19, 3) := by decide +kernel
theorem dX9_part_18 : decode cX9_part 18 = .ok (.getfield 80, 3) := by decide +kernel
theorem dX9_part_21 : decode cX9_part 21 = .ok (.iload_n 1, 1) := by decide +kernel
theorem dX9_part_22 : decode cX9_part 22 = .ok (.aaload, 1) := by decide +kernel
theorem dX9_part_23 : decode cX9_part 23 = .ok (.astore_n 2, 1) := by decide +kernel
theorem dX9_part_24 : decode cX9_part 24 = .ok (.aload_n 2, 1) := by decide +kernel
theorem dX9_part_25 : decode cX9_part 25 = .ok (.getfield 162, 3) := by decide +kernel
theorem dX9_part_28 : decode cX9_part 28 = .ok (.istore_n 3, 1) := by decide +kernel
theorem dX9_part_29 : decode cX9_part 29 = .ok (.aload_n 0, 1) := by decide +kernel
theorem dX9_part_30 : decode cX9_part 30 = .ok (.getfield 19, 3) := by decide +kernel
theorem dX9_part_33 : decode cX9_part 33 = .ok (.iload_n 3, 1) := by decide +kernel
theorem dX9_part_34 : decode cX9_part 34 = .ok (.invokevirtual 77, 3) := by decide +kernel
theorem dX9_part_37 : decode cX9_part 37 = .ok (.ifCond .ne 6, 3) := by decide +kernel
theorem dX9_part_40 : decode cX9_part 40 = .ok (.bipush (-103), 2) := by decide +kernel
theorem dX9_part_42 : decode cX9_part 42 = .ok (.ireturn, 1) := by decide +kernel
theorem dX9_part_43 : decode cX9_part 43 = .ok (.aload_n 0, 1) := by decide +kernel
theorem dX9_part_44 : decode cX9_part 44 = .ok (.getfield 19, 3) := by decide +kernel
theorem dX9_part_47 : decode cX9_part 47 = .ok (.getfield 80, 3) := by decide +kernel
theorem dX9_part_50 : decode cX9_part 50 = .ok (.iload_n 3, 1) := by decide +kernel
theorem dX9_part_51 : decode cX9_part 51 = .ok (.aaload, 1) := by decide +kernel
theorem dX9_part_52 : decode cX9_part 52 = .ok (.astore 4, 2) := by decide +kernel
theorem dX9_part_54 : decode cX9_part 54 = .ok (.aload_n 2, 1) := by decide +kernel
theorem dX9_part_55 : decode cX9_part 55 = .ok (.iconst (-1), 1) := by decide +kernel
theorem dX9_part_56 : decode cX9_part 56 = .ok (.putfield 162, 3) := by decide +kernel
theorem dX9_part_59 : decode cX9_part 59 = .ok (.aload 4, 2) := by decide +kernel
theorem dX9_part_61 : decode cX9_part 61 = .ok (.iconst (-1), 1) := by decide +kernel
theorem dX9_part_62 : decode cX9_part 62 = .ok (.putfield 162, 3) := by decide +kernel
theorem dX9_part_65 : decode cX9_part 65 = .ok (.aload_n 2, 1) := by decide +kernel
theorem dX9_part_66 : decode cX9_part 66 = .ok (.aload 4, 2) := by decide +kernel
theorem dX9_part_68 : decode cX9_part 68 = .ok (.invokevirtual 165, 3) := by decide +kernel
theorem dX9_part_71 : decode cX9_part 71 = .ok (.aload 4, 2) := by decide +kernel
theorem dX9_part_73 : decode cX9_part 73 = .ok (.aload_n 2, 1) := by decide +kernel
theorem dX9_part_74 : decode cX9_part 74 = .ok (.invokevirtual 165, 3) := by decide +kernel
theorem dX9_part_77 : decode cX9_part 77 = .ok (.iload_n 3, 1) := by decide +kernel
theorem dX9_part_78 : decode cX9_part 78 = .ok (.ireturn, 1) := by decide +kernel
theorem dX9_lasting_0 : decode cX9_lasting 0 = .ok (.iload_n 1, 1) := by decide +kernel
theorem dX9_lasting_1 : decode cX9_lasting 1 = .ok (.invokestatic 168, 3) := by decide +kernel
theorem dX9_lasting_4 : decode cX9_lasting 4 = .ok (.ifCond .ne 6, 3) := by decide +kernel
theorem dX9_lasting_7 : decode cX9_lasting 7 = .ok (.bipush (-102), 2) := by decide +kernel
theorem dX9_lasting_9 : decode cX9_lasting 9 = .ok (.ireturn, 1) := by decide +kernel
theorem dX9_lasting_10 : decode cX9_lasting 10 = .ok (.aload_n 0, 1) := by decide +kernel
theorem dX9_lasting_11 : decode cX9_lasting 11 = .ok (.getfield 19, 3) := by decide +kernel
theorem dX9_lasting_14 : decode cX9_lasting 14 = .ok (.invokevirtual 111, 3) := by decide +kernel
theorem dX9_lasting_17 : decode cX9_lasting 17 = .ok (.ifCond .eq 6, 3) := by decide +kernel
theorem dX9_lasting_20 : decode cX9_lasting 20 = .ok (.bipush (-103), 2) := by decide +kernel
theorem dX9_lasting_22 : decode cX9_lasting 22 = .ok (.ireturn, 1) := by decide +kernel
theorem dX9_lasting_23 : decode cX9_lasting 23 = .ok (.aload_n 0, 1) := by decide +kernel
theorem dX9_lasting_24 : decode cX9_lasting 24 = .ok (.getfield 36, 3) := by decide +kernel
theorem dX9_lasting_27 : decode cX9_lasting 27 = .ok (.aload_n 0, 1) := by decide +kernel
theorem dX9_lasting_28 : decode cX9_lasting 28 = .ok (.getfield 19, 3) := by decide +kernel
theorem dX9_lasting_31 : decode cX9_lasting 31 = .ok (.invokevirtual 171, 3) := by decide +kernel
theorem dX9_lasting_34 : decode cX9_lasting 34 = .ok (.aload_n 0, 1) := by decide +kernel
theorem dX9_lasting_35 : decode cX9_lasting 35 = .ok (.getfield 36, 3) := by decide +kernel
theorem dX9_lasting_38 : decode cX9_lasting 38 = .ok (.iload_n 1, 1) := by decide +kernel
theorem dX9_lasting_39 : decode cX9_lasting 39 = .ok (.invokevirtual 175, 3) := by decide +kernel
theorem dX9_lasting_42 : decode cX9_lasting 42 = .ok (.ireturn, 1) := by decide +kernel
theorem dX9_mutual_0 : decode cX9_mutual 0 = .ok (.aload_n 0, 1) := by decide +kernel
theorem dX9_mutual_1 : decode cX9_mutual 1 = .ok (.getfield 19, 3) := by decide +kernel
theorem dX9_mutual_4 : decode cX9_mutual 4 = .ok (.invokevirtual 111, 3) := by decide +kernel
theorem dX9_mutual_7 : decode cX9_mutual 7 = .ok (.ifCond .eq 6, 3) := by decide +kernel
theorem dX9_mutual_10 : decode cX9_mutual 10 = .ok (.bipush (-103), 2) := by decide +kernel
theorem dX9_mutual_12 : decode cX9_mutual 12 = .ok (.ireturn, 1) := by decide +kernel
theorem dX9_mutual_13 : decode cX9_mutual 13 = .ok (.aload_n 0, 1) := by decide +kernel
theorem dX9_mutual_14 : decode cX9_mutual 14 = .ok (.getfield 19, 3) := by decide +kernel
theorem dX9_mutual_17 : decode cX9_mutual 17 = .ok (.invokevirtual 179, 3) := by decide +kernel
theorem dX9_mutual_20 : decode cX9_mutual 20 = .ok (.ireturn, 1) := by decide +kernel
theorem dX9_comes_0 : decode cX9_comes 0 = .ok (.iload_n 1, 1) := by decide +kernel
theorem dX9_comes_1 : decode cX9_comes 1 = .ok (.invokestatic 182, 3) := by decide +kernel
theorem dX9_comes_4 : decode cX9_comes 4 = .ok (.ifCond .eq 17, 3) := by decide +kernel
theorem dX9_comes_7 : decode cX9_comes 7 = .ok (.iload_n 2, 1) := by decide +kernel
theorem dX9_comes_8 : decode cX9_comes 8 = .ok (.invokestatic 108, 3) := by decide +kernel
theorem dX9_comes_11 : decode cX9_comes 11 = .ok (.ifCond .eq 10, 3) := by decide +kernel
theorem dX9_comes_14 : decode cX9_comes 14 = .ok (.iload_n 3, 1) := by decide +kernel
theorem dX9_comes_15 : decode cX9_comes 15 = .ok (.invokestatic 185, 3) := by decide +kernel
theorem dX9_comes_18 : decode cX9_comes 18 = .ok (.ifCond .ne 6, 3) := by decide +kernel
theorem dX9_comes_21 : decode cX9_comes 21 = .ok (.bipush (-102), 2) := by decide +kernel
theorem dX9_comes_23 : decode cX9_comes 23 = .ok (.ireturn, 1) := by decide +kernel
theorem dX9_comes_24 : decode cX9_comes 24 = .ok (.aload_n 0, 1) := by decide +kernel
theorem dX9_comes_25 : decode cX9_comes 25 = .ok (.getfield 19, 3) := by decide +kernel
theorem dX9_comes_28 : decode cX9_comes 28 = .ok (.invokevirtual 111, 3) := by decide +kernel
theorem dX9_comes_31 : decode cX9_comes 31 = .ok (.ifCond .eq 6, 3) := by decide +kernel
theorem dX9_comes_34 : decode cX9_comes 34 = .ok (.bipush (-103), 2) := by decide +kernel
theorem dX9_comes_36 : decode cX9_comes 36 = .ok (.ireturn, 1) := by decide +kernel
theorem dX9_comes_37 : decode cX9_comes 37 = .ok (.aload_n 0, 1) := by decide +kernel
theorem dX9_comes_38 : decode cX9_comes 38 = .ok (.getfield 29, 3) := by decide +kernel
theorem dX9_comes_41 : decode cX9_comes 41 = .ok (.aload_n 0, 1) := by decide +kernel
theorem dX9_comes_42 : decode cX9_comes 42 = .ok (.getfield 19, 3) := by decide +kernel
theorem dX9_comes_45 : decode cX9_comes 45 = .ok (.iload_n 1, 1) := by decide +kernel
theorem dX9_comes_46 : decode cX9_comes 46 = .ok (.iload_n 2, 1) := by decide +kernel
theorem dX9_comes_47 : decode cX9_comes 47 = .ok (.iload_n 3, 1) := by decide +kernel
theorem dX9_comes_48 : decode cX9_comes 48 = .ok (.invokevirtual 188, 3) := by decide +kernel
theorem dX9_comes_51 : decode cX9_comes 51 = .ok (.ireturn, 1) := by decide +kernel
theorem dX9_best_0 : decode cX9_best 0 = .ok (.iload_n 1, 1) := by decide +kernel
theorem dX9_best_1 : decode cX9_best 1 = .ok (.invokestatic 182, 3) := by decide +kernel
theorem dX9_best_4 : decode cX9_best 4 = .ok (.ifCond .eq 10, 3) := by decide +kernel
theorem dX9_best_7 : decode cX9_best 7 = .ok (.iload_n 2, 1) := by decide +kernel
theorem dX9_best_8 : decode cX9_best 8 = .ok (.invokestatic 185, 3) := by decide +kernel
theorem dX9_best_11 : decode cX9_best 11 = .ok (.ifCond .ne 6, 3) := by decide +kernel
theorem dX9_best_14 : decode cX9_best 14 = .ok (.bipush (-102), 2) := by decide +kernel
theorem dX9_best_16 : decode cX9_best 16 = .ok (.ireturn, 1) := by decide +kernel
theorem dX9_best_17 : decode cX9_best 17 = .ok (.aload_n 0, 1) := by decide +kernel
theorem dX9_best_18 : decode cX9_best 18 = .ok (.getfield 19, 3) := by decide +kernel
theorem dX9_best_21 : decode cX9_best 21 = .ok (.invokevirtual 111, 3) := by decide +kernel
theorem dX9_best_24 : decode cX9_best 24 = .ok (.ifCond .eq 6, 3) := by decide +kernel
theorem dX9_best_27 : decode cX9_best 27 = .ok (.bipush (-103), 2) := by decide +kernel
theorem dX9_best_29 : decode cX9_best 29 = .ok (.ireturn, 1) := by decide +kernel
theorem dX9_best_30 : decode cX9_best 30 = .ok (.aload_n 0, 1) := by decide +kernel
theorem dX9_best_31 : decode cX9_best 31 = .ok (.getfield 29, 3) := by decide +kernel
theorem dX9_best_34 : decode cX9_best 34 = .ok (.aload_n 0, 1) := by decide +kernel
theorem dX9_best_35 : decode cX9_best 35 = .ok (.getfield 19, 3) := by decide +kernel
theorem dX9_best_38 : decode cX9_best 38 = .ok (.iload_n 1, 1) := by decide +kernel
theorem dX9_best_39 : decode cX9_best 39 = .ok (.iload_n 2, 1) := by decide +kernel
theorem dX9_best_40 : decode cX9_best 40 = .ok (.invokevirtual 192, 3) := by decide +kernel
theorem dX9_best_43 : decode cX9_best 43 = .ok (.ireturn, 1) := by decide +kernel
theorem dX9_waiting_0 : decode cX9_waiting 0 = .ok (.iload_n 1, 1) := by decide +kernel
theorem dX9_waiting_1 : decode cX9_waiting 1 = .ok (.invokestatic 196, 3) := by decide +kernel
theorem dX9_waiting_4 : decode cX9_waiting 4 = .ok (.ifCond .eq 23, 3) := by decide +kernel
theorem dX9_waiting_7 : decode cX9_waiting 7 = .ok (.iload_n 2, 1) := by decide +kernel
theorem dX9_waiting_8 : decode cX9_waiting 8 = .ok (.iconst 0, 1) := by decide +kernel
theorem dX9_waiting_9 : decode cX9_waiting 9 = .ok (.iload_n 1, 1) := by decide +kernel
theorem dX9_waiting_10 : decode cX9_waiting 10 = .ok (.iconst 1, 1) := by decide +kernel
theorem dX9_waiting_11 : decode cX9_waiting 11 = .ok (.isub, 1) := by decide +kernel
theorem dX9_waiting_12 : decode cX9_waiting 12 = .ok (.invokestatic 40, 3) := by decide +kernel
theorem dX9_waiting_15 : decode cX9_waiting 15 = .ok (.ifCond .eq 12, 3) := by decide +kernel
theorem dX9_waiting_18 : decode cX9_waiting 18 = .ok (.iload_n 3, 1) := by decide +kernel
theorem dX9_waiting_19 : decode cX9_waiting 19 = .ok (.iconst 0, 1) := by decide +kernel
theorem dX9_waiting_20 : decode cX9_waiting 20 = .ok (.iconst 1, 1) := by decide +kernel
theorem dX9_waiting_21 : decode cX9_waiting 21 = .ok (.invokestatic 40, 3) := by decide +kernel
theorem dX9_waiting_24 : decode cX9_waiting 24 = .ok (.ifCond .ne 6, 3) := by decide +kernel
theorem dX9_waiting_27 : decode cX9_waiting 27 = .ok (.bipush (-102), 2) := by decide +kernel
theorem dX9_waiting_29 : decode cX9_waiting 29 = .ok (.ireturn, 1) := by decide +kernel
theorem dX9_waiting_30 : decode cX9_waiting 30 = .ok (.iload_n 1, 1) := by decide +kernel
theorem dX9_waiting_31 : decode cX9_waiting 31 = .ok (.iload_n 2, 1) := by decide +kernel
theorem dX9_waiting_32 : decode cX9_waiting 32 = .ok (.invokestatic 201, 3) := by decide +kernel
theorem dX9_waiting_35 : decode cX9_waiting 35 = .ok (.istore 4, 2) := by decide +kernel
theorem dX9_waiting_37 : decode cX9_waiting 37 = .ok (.iload_n 1, 1) := by decide +kernel
theorem dX9_waiting_38 : decode cX9_waiting 38 = .ok (.invokestatic 205, 3) := by decide +kernel
theorem dX9_waiting_41 : decode cX9_waiting 41 = .ok (.istore 5, 2) := by decide +kernel
theorem dX9_waiting_43 : decode cX9_waiting 43 = .ok (.iload 4, 2) := by decide +kernel
theorem dX9_waiting_45 : decode cX9_waiting 45 = .ok (.iload 5, 2) := by decide +kernel
theorem dX9_waiting_47 : decode cX9_waiting 47 = .ok (.invokestatic 208, 3) := by decide +kernel
theorem dX9_waiting_50 : decode cX9_waiting 50 = .ok (.istore 6, 2) := by decide +kernel
theorem dX9_waiting_52 : decode cX9_waiting 52 = .ok (.iload_n 3, 1) := by decide +kernel
theorem dX9_waiting_53 : decode cX9_waiting 53 = .ok (.ifCond .ne 8, 3) := by decide +kernel
theorem dX9_waiting_56 : decode cX9_waiting 56 = .ok (.iload 4, 2) := by decide +kernel
theorem dX9_waiting_58 : decode cX9_waiting 58 = .ok (.goto 5, 3) := by decide +kernel
theorem dX9_waiting_61 : decode cX9_waiting 61 = .ok (.iload 5, 2) := by decide +kernel
theorem dX9_waiting_63 : decode cX9_waiting 63 = .ok (.iload 6, 2) := by decide +kernel
theorem dX9_waiting_65 : decode cX9_waiting 65 = .ok (.idiv, 1) := by decide +kernel
theorem dX9_waiting_66 : decode cX9_waiting 66 = .ok (.ireturn, 1) := by decide +kernel
theorem dX9_howMany_0 : decode cX9_howMany 0 = .ok (.iload_n 1, 1) := by decide +kernel
theorem dX9_howMany_1 : decode cX9_howMany 1 = .ok (.invokestatic 196, 3) := by decide +kernel
theorem dX9_howMany_4 : decode cX9_howMany 4 = .ok (.ifCond .ne 6, 3) := by decide +kernel
theorem dX9_howMany_7 : decode cX9_howMany 7 = .ok (.bipush (-102), 2) := by decide +kernel
theorem dX9_howMany_9 : decode cX9_howMany 9 = .ok (.ireturn, 1) := by decide +kernel
theorem dX9_howMany_10 : decode cX9_howMany 10 = .ok (.iload_n 1, 1) := by decide +kernel
theorem dX9_howMany_11 : decode cX9_howMany 11 = .ok (.invokestatic 211, 3) := by decide +kernel
theorem dX9_howMany_14 : decode cX9_howMany 14 = .ok (.ireturn, 1) := by decide +kernel
theorem dX9_see_0 : decode cX9_see 0 = .ok (.aload_n 0, 1) := by decide +kernel
theorem dX9_see_1 : decode cX9_see 1 = .ok (.getfield 19, 3) := by decide +kernel
theorem dX9_see_4 : decode cX9_see 4 = .ok (.iload_n 1, 1) := by decide +kernel
theorem dX9_see_5 : decode cX9_see 5 = .ok (.invokevirtual 77, 3) := by decide +kernel
theorem dX9_see_8 : decode cX9_see 8 = .ok (.ifCond .eq 14, 3) := by decide +kernel
theorem dX9_see_11 : decode cX9_see 11 = .ok (.aload_n 0, 1) := by decide +kernel
theorem dX9_see_12 : decode cX9_see 12 = .ok (.getfield 19, 3) := by decide +kernel
theorem dX9_see_15 : decode cX9_see 15 = .ok (.iload_n 2, 1) := by decide +kernel
theorem dX9_see_16 : decode cX9_see 16 = .ok (.invokevirtual 77, 3) := by decide +kernel
theorem dX9_see_19 : decode cX9_see 19 = .ok (.ifCond .ne 6, 3) := by decide +kernel
theorem dX9_see_22 : decode cX9_see 22 = .ok (.bipush (-101), 2) := by decide +kernel
theorem dX9_see_24 : decode cX9_see 24 = .ok (.ireturn, 1) := by decide +kernel
theorem dX9_see_25 : decode cX9_see 25 = .ok (.aload_n 0, 1) := by decide +kernel
theorem dX9_see_26 : decode cX9_see 26 = .ok (.getfield 19, 3) := by decide +kernel
theorem dX9_see_29 : decode cX9_see 29 = .ok (.getfield 80, 3) := by decide +kernel
theorem dX9_see_32 : decode cX9_see 32 = .ok (.iload_n 1, 1) := by decide +kernel
theorem dX9_see_33 : decode cX9_see 33 = .ok (.aaload, 1) := by decide +kernel
theorem dX9_see_34 : decode cX9_see 34 = .ok (.getfield 214, 3) := by decide +kernel
theorem dX9_see_37 : decode cX9_see 37 = .ok (.aload_n 0, 1) := by decide +kernel
theorem dX9_see_38 : decode cX9_see 38 = .ok (.getfield 19, 3) := by decide +kernel
theorem dX9_see_41 : decode cX9_see 41 = .ok (.getfield 80, 3) := by decide +kernel
theorem dX9_see_44 : decode cX9_see 44 = .ok (.iload_n 2, 1) := by decide +kernel
theorem dX9_see_45 : decode cX9_see 45 = .ok (.aaload, 1) := by decide +kernel
theorem dX9_see_46 : decode cX9_see 46 = .ok (.getfield 214, 3) := by decide +kernel
theorem dX9_see_49 : decode cX9_see 49 = .ok (.if_icmp .ne 6, 3) := by decide +kernel
theorem dX9_see_52 : decode cX9_see 52 = .ok (.bipush (-103), 2) := by decide +kernel
theorem dX9_see_54 : decode cX9_see 54 = .ok (.ireturn, 1) := by decide +kernel
theorem dX9_see_55 : decode cX9_see 55 = .ok (.aload_n 0, 1) := by decide +kernel
theorem dX9_see_56 : decode cX9_see 56 = .ok (.getfield 19, 3) := by decide +kernel
theorem dX9_see_59 : decode cX9_see 59 = .ok (.getfield 217, 3) := by decide +kernel
theorem dX9_see_62 : decode cX9_see 62 = .ok (.iload_n 1, 1) := by decide +kernel
theorem dX9_see_63 : decode cX9_see 63 = .ok (.iload_n 2, 1) := by decide +kernel
theorem dX9_see_64 : decode cX9_see 64 = .ok (.iload_n 3, 1) := by decide +kernel
theorem dX9_see_65 : decode cX9_see 65 = .ok (.invokevirtual 221, 3) := by decide +kernel
theorem dX9_see_68 : decode cX9_see 68 = .ok (.ifCond .eq 16, 3) := by decide +kernel
theorem dX9_see_71 : decode cX9_see 71 = .ok (.aload_n 0, 1) := by decide +kernel
theorem dX9_see_72 : decode cX9_see 72 = .ok (.getfield 19, 3) := by decide +kernel
theorem dX9_see_75 : decode cX9_see 75 = .ok (.getfield 217, 3) := by decide +kernel
theorem dX9_see_78 : decode cX9_see 78 = .ok (.getfield 226, 3) := by decide +kernel
theorem dX9_see_81 : decode cX9_see 81 = .ok (.goto 5, 3) := by decide +kernel
theorem dX9_see_84 : decode cX9_see 84 = .ok (.bipush (-104), 2) := by decide +kernel
theorem dX9_see_86 : decode cX9_see 86 = .ok (.ireturn, 1) := by decide +kernel
theorem dX9_forget_0 : decode cX9_forget 0 = .ok (.aload_n 0, 1) := by decide +kernel
theorem dX9_forget_1 : decode cX9_forget 1 = .ok (.getfield 19, 3) := by decide +kernel
theorem dX9_forget_4 : decode cX9_forget 4 = .ok (.getfield 217, 3) := by decide +kernel
theorem dX9_forget_7 : decode cX9_forget 7 = .ok (.getfield 226, 3) := by decide +kernel
theorem dX9_forget_10 : decode cX9_forget 10 = .ok (.istore_n 1, 1) := by decide +kernel
theorem dX9_forget_11 : decode cX9_forget 11 = .ok (.aload_n 0, 1) := by decide +kernel
theorem dX9_forget_12 : decode cX9_forget 12 = .ok (.getfield 19, 3) := by decide +kernel
theorem dX9_forget_15 : decode cX9_forget 15 = .ok (.getfield 217, 3) := by decide +kernel
theorem dX9_forget_18 : decode cX9_forget 18 = .ok (.invokevirtual 227, 3) := by decide +kernel
theorem dX9_forget_21 : decode cX9_forget 21 = .ok (.iload_n 1, 1) := by decide +kernel
theorem dX9_forget_22 : decode cX9_forget 22 = .ok (.ireturn, 1) := by decide +kernel
theorem dX9_seasons_0 : decode cX9_seasons 0 = .ok (.iload_n 1, 1) := by decide +kernel
theorem dX9_seasons_1 : decode cX9_seasons 1 = .ok (.iconst 1, 1) := by decide +kernel
theorem dX9_seasons_2 : decode cX9_seasons 2 = .ok (.bipush 60, 2) := by decide +kernel
theorem dX9_seasons_4 : decode cX9_seasons 4 = .ok (.invokestatic 40, 3) := by decide +kernel
theorem dX9_seasons_7 : decode cX9_seasons 7 = .ok (.ifCond .eq 16, 3) := by decide +kernel
theorem dX9_seasons_10 : decode cX9_seasons 10 = .ok (.iload_n 2, 1) := by decide +kernel
theorem dX9_seasons_11 : decode cX9_seasons 11 = .ok (.ifCond .lt 12, 3) := by decide +kernel
theorem dX9_seasons_14 : decode cX9_seasons 14 = .ok (.iload_n 3, 1) := by decide +kernel
theorem dX9_seasons_15 : decode cX9_seasons 15 = .ok (.iconst 0, 1) := by decide +kernel
theorem dX9_seasons_16 : decode cX9_seasons 16 = .ok (.iconst 2, 1) := by decide +kernel
theorem dX9_seasons_17 : decode cX9_seasons 17 = .ok (.invokestatic 40, 3) := by decide +kernel
theorem dX9_seasons_20 : decode cX9_seasons 20 = .ok (.ifCond .ne 6, 3) := by decide +kernel
theorem dX9_seasons_23 : decode cX9_seasons 23 = .ok (.bipush (-102), 2) := by decide +kernel
theorem dX9_seasons_25 : decode cX9_seasons 25 = .ok (.ireturn, 1) := by decide +kernel
theorem dX9_seasons_26 : decode cX9_seasons 26 = .ok (.aload_n 0, 1) := by decide +kernel
theorem dX9_seasons_27 : decode cX9_seasons 27 = .ok (.getfield 19, 3) := by decide +kernel
theorem dX9_seasons_30 : decode cX9_seasons 30 = .ok (.invokevirtual 111, 3) := by decide +kernel
theorem dX9_seasons_33 : decode cX9_seasons 33 = .ok (.ifCond .eq 6, 3) := by decide +kernel
theorem dX9_seasons_36 : decode cX9_seasons 36 = .ok (.bipush (-103), 2) := by decide +kernel
theorem dX9_seasons_38 : decode cX9_seasons 38 = .ok (.ireturn, 1) := by decide +kernel
theorem dX9_seasons_39 : decode cX9_seasons 39 = .ok (.iload_n 2, 1) := by decide +kernel
theorem dX9_seasons_40 : decode cX9_seasons 40 = .ok (.i2l, 1) := by decide +kernel
theorem dX9_seasons_41 : decode cX9_seasons 41 = .ok (.lstore 4, 2) := by decide +kernel
theorem dX9_seasons_43 : decode cX9_seasons 43 = .ok (.iconst 0, 1) := by decide +kernel
theorem dX9_seasons_44 : decode cX9_seasons 44 = .ok (.istore 6, 2) := by decide +kernel
theorem dX9_seasons_46 : decode cX9_seasons 46 = .ok (.iconst 0, 1) := by decide +kernel
theorem dX9_seasons_47 : decode cX9_seasons 47 = .ok (.istore 7, 2) := by decide +kernel
theorem dX9_seasons_49 : decode cX9_seasons 49 = .ok (.iconst 0, 1) := by decide +kernel
theorem dX9_seasons_50 : decode cX9_seasons 50 = .ok (.istore 8, 2) := by decide +kernel
theorem dX9_seasons_52 : decode cX9_seasons 52 = .ok (.iload 8, 2) := by decide +kernel
theorem dX9_seasons_54 : decode cX9_seasons 54 = .ok (.iload_n 1, 1) := by decide +kernel
theorem dX9_seasons_55 : decode cX9_seasons 55 = .ok (.if_icmp .ge 125, 3) := by decide +kernel
theorem dX9_seasons_58 : decode cX9_seasons 58 = .ok (.lload 4, 2) := by decide +kernel
theorem dX9_seasons_60 : decode cX9_seasons 60 = .ok (.invokestatic 228, 3) := by decide +kernel
theorem dX9_seasons_63 : decode cX9_seasons 63 = .ok (.lstore 4, 2) := by decide +kernel
theorem dX9_seasons_65 : decode cX9_seasons 65 = .ok (.aload_n 0, 1) := by decide +kernel
theorem dX9_seasons_66 : decode cX9_seasons 66 = .ok (.getfield 19, 3) := by decide +kernel
theorem dX9_seasons_69 : decode cX9_seasons 69 = .ok (.getfield 80, 3) := by decide +kernel
theorem dX9_seasons_72 : decode cX9_seasons 72 = .ok (.lload 4, 2) := by decide +kernel
theorem dX9_seasons_74 : decode cX9_seasons 74 = .ok (.aload_n 0, 1) := by decide +kernel
theorem dX9_seasons_75 : decode cX9_seasons 75 = .ok (.getfield 19, 3) := by decide +kernel
theorem dX9_seasons_78 : decode cX9_seasons 78 = .ok (.getfield 234, 3) := by decide +kernel
theorem dX9_seasons_81 : decode cX9_seasons 81 = .ok (.invokestatic 237, 3) := by decide +kernel
theorem dX9_seasons_84 : decode cX9_seasons 84 = .ok (.aaload, 1) := by decide +kernel
theorem dX9_seasons_85 : decode cX9_seasons 85 = .ok (.astore 9, 2) := by decide +kernel
theorem dX9_seasons_87 : decode cX9_seasons 87 = .ok (.lload 4, 2) := by decide +kernel
theorem dX9_seasons_89 : decode cX9_seasons 89 = .ok (.invokestatic 228, 3) := by decide +kernel
theorem dX9_seasons_92 : decode cX9_seasons 92 = .ok (.lstore 4, 2) := by decide +kernel
theorem dX9_seasons_94 : decode cX9_seasons 94 = .ok (.aload_n 0, 1) := by decide +kernel
theorem dX9_seasons_95 : decode cX9_seasons 95 = .ok (.getfield 19, 3) := by decide +kernel
theorem dX9_seasons_98 : decode cX9_seasons 98 = .ok (.getfield 80, 3) := by decide +kernel
theorem dX9_seasons_101 : decode cX9_seasons 101 = .ok (.aload_n 0, 1) := by decide +kernel
theorem dX9_seasons_102 : decode cX9_seasons 102 = .ok (.getfield 19, 3) := by decide +kernel
theorem dX9_seasons_105 : decode cX9_seasons 105 = .ok (.getfield 234, 3) := by decide +kernel
theorem dX9_seasons_108 : decode cX9_seasons 108 = .ok (.lload 4, 2) := by decide +kernel
theorem dX9_seasons_110 : decode cX9_seasons 110 = .ok (.aload_n 0, 1) := by decide +kernel
theorem dX9_seasons_111 : decode cX9_seasons 111 = .ok (.getfield 19, 3) := by decide +kernel
theorem dX9_seasons_114 : decode cX9_seasons 114 = .ok (.getfield 74, 3) := by decide +kernel
theorem dX9_seasons_117 : decode cX9_seasons 117 = .ok (.aload_n 0, 1) := by decide +kernel
theorem dX9_seasons_118 : decode cX9_seasons 118 = .ok (.getfield 19, 3) := by decide +kernel
theorem dX9_seasons_121 : decode cX9_seasons 121 = .ok (.getfield 234, 3) := by decide +kernel
theorem dX9_seasons_124 : decode cX9_seasons 124 = .ok (.isub, 1) := by decide +kernel
theorem dX9_seasons_125 : decode cX9_seasons 125 = .ok (.invokestatic 237, 3) := by decide +kernel
theorem dX9_seasons_128 : decode cX9_seasons 128 = .ok (.iadd, 1) := by decide +kernel
theorem dX9_seasons_129 : decode cX9_seasons 129 = .ok (.aaload, 1) := by decide +kernel
theorem dX9_seasons_130 : decode cX9_seasons 130 = .ok (.astore 10, 2) := by decide +kernel
theorem dX9_seasons_132 : decode cX9_seasons 132 = .ok (.aload 9, 2) := by decide +kernel
theorem dX9_seasons_134 : decode cX9_seasons 134 = .ok (.aload 10, 2) := by decide +kernel
theorem dX9_seasons_136 : decode cX9_seasons 136 = .ok (.invokevirtual 241, 3) := by decide +kernel
theorem dX9_seasons_139 : decode cX9_seasons 139 = .ok (.ifCond .eq 35, 3) := by decide +kernel
theorem dX9_seasons_142 : decode cX9_seasons 142 = .ok (.aload 10, 2) := by decide +kernel
theorem dX9_seasons_144 : decode cX9_seasons 144 = .ok (.aload 9, 2) := by decide +kernel
theorem dX9_seasons_146 : decode cX9_seasons 146 = .ok (.invokevirtual 241, 3) := by decide +kernel
theorem dX9_seasons_149 : decode cX9_seasons 149 = .ok (.ifCond .eq 25, 3) := by decide +kernel
theorem dX9_seasons_152 : decode cX9_seasons 152 = .ok (.iinc 6 1, 3) := by decide +kernel
theorem dX9_seasons_155 : decode cX9_seasons 155 = .ok (.iload 7, 2) := by decide +kernel
theorem dX9_seasons_157 : decode cX9_seasons 157 = .ok (.aload 9, 2) := by decide +kernel
theorem dX9_seasons_159 : decode cX9_seasons 159 = .ok (.getfield 156, 3) := by decide +kernel
theorem dX9_seasons_162 : decode cX9_seasons 162 = .ok (.aload 10, 2) := by decide +kernel
theorem dX9_seasons_164 : decode cX9_seasons 164 = .ok (.getfield 156, 3) := by decide +kernel
theorem dX9_seasons_167 : decode cX9_seasons 167 = .ok (.isub, 1) := by decide +kernel
theorem dX9_seasons_168 : decode cX9_seasons 168 = .ok (.invokestatic 244, 3) := by decide +kernel
theorem dX9_seasons_171 : decode cX9_seasons 171 = .ok (.iadd, 1) := by decide +kernel
theorem dX9_seasons_172 : decode cX9_seasons 172 = .ok (.istore 7, 2) := by decide +kernel
theorem dX9_seasons_174 : decode cX9_seasons 174 = .ok (.iinc 8 1, 3) := by decide +kernel
theorem dX9_seasons_177 : decode cX9_seasons 177 = .ok (.goto (-125), 3) := by decide +kernel
theorem dX9_seasons_180 : decode cX9_seasons 180 = .ok (.iload_n 3, 1) := by decide +kernel
theorem dX9_seasons_181 : decode cX9_seasons 181 = .ok (.iconst 2, 1) := by decide +kernel
theorem dX9_seasons_182 : decode cX9_seasons 182 = .ok (.if_icmp .ne 7, 3) := by decide +kernel
theorem dX9_seasons_185 : decode cX9_seasons 185 = .ok (.lload 4, 2) := by decide +kernel
theorem dX9_seasons_187 : decode cX9_seasons 187 = .ok (.l2i, 1) := by decide +kernel
theorem dX9_seasons_188 : decode cX9_seasons 188 = .ok (.ireturn, 1) := by decide +kernel
theorem dX9_seasons_189 : decode cX9_seasons 189 = .ok (.iload_n 3, 1) := by decide +kernel
theorem dX9_seasons_190 : decode cX9_seasons 190 = .ok (.ifCond .ne 8, 3) := by decide +kernel
theorem dX9_seasons_193 : decode cX9_seasons 193 = .ok (.iload 6, 2) := by decide +kernel
theorem dX9_seasons_195 : decode cX9_seasons 195 = .ok (.goto 5, 3) := by decide +kernel
theorem dX9_seasons_198 : decode cX9_seasons 198 = .ok (.iload 7, 2) := by decide +kernel
theorem dX9_seasons_200 : decode cX9_seasons 200 = .ok (.ireturn, 1) := by decide +kernel
theorem dX9_image_0 : decode cX9_image 0 = .ok (.aload_n 0, 1) := by decide +kernel
theorem dX9_image_1 : decode cX9_image 1 = .ok (.getfield 19, 3) := by decide +kernel
theorem dX9_image_4 : decode cX9_image 4 = .ok (.invokevirtual 111, 3) := by decide +kernel
theorem dX9_image_7 : decode cX9_image 7 = .ok (.ifCond .eq 6, 3) := by decide +kernel
theorem dX9_image_10 : decode cX9_image 10 = .ok (.bipush (-103), 2) := by decide +kernel
theorem dX9_image_12 : decode cX9_image 12 = .ok (.ireturn, 1) := by decide +kernel
theorem dX9_image_13 : decode cX9_image 13 = .ok (.aload_n 0, 1) := by decide +kernel
theorem dX9_image_14 : decode cX9_image 14 = .ok (.getfield 23, 3) := by decide +kernel
theorem dX9_image_17 : decode cX9_image 17 = .ok (.aload_n 0, 1) := by decide +kernel
theorem dX9_image_18 : decode cX9_image 18 = .ok (.getfield 19, 3) := by decide +kernel
theorem dX9_image_21 : decode cX9_image 21 = .ok (.invokevirtual 249, 3) := by decide +kernel
theorem dX9_image_24 : decode cX9_image 24 = .ok (.aload_n 0, 1) := by decide +kernel
theorem dX9_image_25 : decode cX9_image 25 = .ok (.iconst 1, 1) := by decide +kernel
theorem dX9_image_26 : decode cX9_image 26 = .ok (.putfield 67, 3) := by decide +kernel
theorem dX9_image_29 : decode cX9_image 29 = .ok (.aload_n 0, 1) := by decide +kernel
theorem dX9_image_30 : decode cX9_image 30 = .ok (.getfield 23, 3) := by decide +kernel
theorem dX9_image_33 : decode cX9_image 33 = .ok (.getfield 144, 3) := by decide +kernel
theorem dX9_image_36 : decode cX9_image 36 = .ok (.ireturn, 1) := by decide +kernel
theorem dX9_restore_0 : decode cX9_restore 0 = .ok (.aload_n 0, 1) := by decide +kernel
theorem dX9_restore_1 : decode cX9_restore 1 = .ok (.getfield 67, 3) := by decide +kernel
theorem dX9_restore_4 : decode cX9_restore 4 = .ok (.ifCond .ne 6, 3) := by decide +kernel
theorem dX9_restore_7 : decode cX9_restore 7 = .ok (.bipush (-103), 2) := by decide +kernel
theorem dX9_restore_9 : decode cX9_restore 9 = .ok (.ireturn, 1) := by decide +kernel
theorem dX9_restore_10 : decode cX9_restore 10 = .ok (.aload_n 0, 1) := by decide +kernel
theorem dX9_restore_11 : decode cX9_restore 11 = .ok (.getfield 19, 3) := by decide +kernel
theorem dX9_restore_14 : decode cX9_restore 14 = .ok (.aload_n 0, 1) := by decide +kernel
theorem dX9_restore_15 : decode cX9_restore 15 = .ok (.getfield 23, 3) := by decide +kernel
theorem dX9_restore_18 : decode cX9_restore 18 = .ok (.invokevirtual 249, 3) := by decide +kernel
theorem dX9_restore_21 : decode cX9_restore 21 = .ok (.aload_n 0, 1) := by decide +kernel
theorem dX9_restore_22 : decode cX9_restore 22 = .ok (.getfield 19, 3) := by decide +kernel
theorem dX9_restore_25 : decode cX9_restore 25 = .ok (.getfield 144, 3) := by decide +kernel
theorem dX9_restore_28 : decode cX9_restore 28 = .ok (.ireturn, 1) := by decide +kernel
theorem dX9_count_0 : decode cX9_count 0 = .ok (.iload_n 1, 1) := by decide +kernel
theorem dX9_count_1 : decode cX9_count 1 = .ok (.bipush 13, 2) := by decide +kernel
theorem dX9_count_3 : decode cX9_count 3 = .ok (.if_icmp .ne 11, 3) := by decide +kernel
theorem dX9_count_6 : decode cX9_count 6 = .ok (.aload_n 0, 1) := by decide +kernel
theorem dX9_count_7 : decode cX9_count 7 = .ok (.getfield 12, 3) := by decide +kernel
theorem dX9_count_10 : decode cX9_count 10 = .ok (.getfield 48, 3) := by decide +kernel
theorem dX9_count_13 : decode cX9_count 13 = .ok (.ireturn, 1) := by decide +kernel
theorem dX9_count_14 : decode cX9_count 14 = .ok (.iload_n 1, 1) := by decide +kernel
theorem dX9_count_15 : decode cX9_count 15 = .ok (.bipush 14, 2) := by decide +kernel
theorem dX9_count_17 : decode cX9_count 17 = .ok (.if_icmp .ne 8, 3) := by decide +kernel
theorem dX9_count_20 : decode cX9_count 20 = .ok (.aload_n 0, 1) := by decide +kernel
theorem dX9_count_21 : decode cX9_count 21 = .ok (.getfield 71, 3) := by decide +kernel
theorem dX9_count_24 : decode cX9_count 24 = .ok (.ireturn, 1) := by decide +kernel
theorem dX9_count_25 : decode cX9_count 25 = .ok (.aload_n 0, 1) := by decide +kernel
theorem dX9_count_26 : decode cX9_count 26 = .ok (.getfield 19, 3) := by decide +kernel
theorem dX9_count_29 : decode cX9_count 29 = .ok (.iload_n 1, 1) := by decide +kernel
theorem dX9_count_30 : decode cX9_count 30 = .ok (.invokevirtual 252, 3) := by decide +kernel
theorem dX9_count_33 : decode cX9_count 33 = .ok (.ireturn, 1) := by decide +kernel
theorem dX9_digest_0 : decode cX9_digest 0 = .ok (.ldc2_w 253, 3) := by decide +kernel
theorem dX9_digest_3 : decode cX9_digest 3 = .ok (.lstore_n 1, 1) := by decide +kernel
theorem dX9_digest_4 : decode cX9_digest 4 = .ok (.iconst 0, 1) := by decide +kernel
theorem dX9_digest_5 : decode cX9_digest 5 = .ok (.istore_n 3, 1) := by decide +kernel
theorem dX9_digest_6 : decode cX9_digest 6 = .ok (.iload_n 3, 1) := by decide +kernel
theorem dX9_digest_7 : decode cX9_digest 7 = .ok (.aload_n 0, 1) := by decide +kernel
theorem dX9_digest_8 : decode cX9_digest 8 = .ok (.getfield 19, 3) := by decide +kernel
theorem dX9_digest_11 : decode cX9_digest 11 = .ok (.getfield 74, 3) := by decide +kernel
theorem dX9_digest_14 : decode cX9_digest 14 = .ok (.if_icmp .ge 40, 3) := by decide +kernel
theorem dX9_digest_17 : decode cX9_digest 17 = .ok (.iconst 0, 1) := by decide +kernel
theorem dX9_digest_18 : decode cX9_digest 18 = .ok (.istore 4, 2) := by decide +kernel
theorem dX9_digest_20 : decode cX9_digest 20 = .ok (.iload 4, 2) := by decide +kernel
theorem dX9_digest_22 : decode cX9_digest 22 = .ok (.bipush 14, 2) := by decide +kernel
theorem dX9_digest_24 : decode cX9_digest 24 = .ok (.if_icmp .gt 24, 3) := by decide +kernel
theorem dX9_digest_27 : decode cX9_digest 27 = .ok (.ldc2_w 255, 3) := by decide +kernel
theorem dX9_digest_30 : decode cX9_digest 30 = .ok (.lload_n 1, 1) := by decide +kernel
theorem dX9_digest_31 : decode cX9_digest 31 = .ok (.lmul, 1) := by decide +kernel
theorem dX9_digest_32 : decode cX9_digest 32 = .ok (.aload_n 0, 1) := by decide +kernel
theorem dX9_digest_33 : decode cX9_digest 33 = .ok (.iload_n 3, 1) := by decide +kernel
theorem dX9_digest_34 : decode cX9_digest 34 = .ok (.iload 4, 2) := by decide +kernel
theorem dX9_digest_36 : decode cX9_digest 36 = .ok (.invokevirtual 257, 3) := by decide +kernel
theorem dX9_digest_39 : decode cX9_digest 39 = .ok (.i2l, 1) := by decide +kernel
theorem dX9_digest_40 : decode cX9_digest 40 = .ok (.ladd, 1) := by decide +kernel
theorem dX9_digest_41 : decode cX9_digest 41 = .ok (.lstore_n 1, 1) := by decide +kernel
theorem dX9_digest_42 : decode cX9_digest 42 = .ok (.iinc 4 1, 3) := by decide +kernel
theorem dX9_digest_45 : decode cX9_digest 45 = .ok (.goto (-25), 3) := by decide +kernel
theorem dX9_digest_48 : decode cX9_digest 48 = .ok (.iinc 3 1, 3) := by decide +kernel
theorem dX9_digest_51 : decode cX9_digest 51 = .ok (.goto (-45), 3) := by decide +kernel
theorem dX9_digest_54 : decode cX9_digest 54 = .ok (.aload_n 0, 1) := by decide +kernel
theorem dX9_digest_55 : decode cX9_digest 55 = .ok (.getfield 19, 3) := by decide +kernel
theorem dX9_digest_58 : decode cX9_digest 58 = .ok (.invokevirtual 111, 3) := by decide +kernel
theorem dX9_digest_61 : decode cX9_digest 61 = .ok (.ifCond .ne 66, 3) := by decide +kernel
theorem dX9_digest_64 : decode cX9_digest 64 = .ok (.aload_n 0, 1) := by decide +kernel
theorem dX9_digest_65 : decode cX9_digest 65 = .ok (.lload_n 1, 1) := by decide +kernel
theorem dX9_digest_66 : decode cX9_digest 66 = .ok (.invokevirtual 260, 3) := by decide +kernel
theorem dX9_digest_69 : decode cX9_digest 69 = .ok (.lstore_n 1, 1) := by decide +kernel
theorem dX9_digest_70 : decode cX9_digest 70 = .ok (.ldc2_w 255, 3) := by decide +kernel
theorem dX9_digest_73 : decode cX9_digest 73 = .ok (.lload_n 1, 1) := by decide +kernel
theorem dX9_digest_74 : decode cX9_digest 74 = .ok (.lmul, 1) := by decide +kernel
theorem dX9_digest_75 : decode cX9_digest 75 = .ok (.aload_n 0, 1) := by decide +kernel
theorem dX9_digest_76 : decode cX9_digest 76 = .ok (.getfield 19, 3) := by decide +kernel
theorem dX9_digest_79 : decode cX9_digest 79 = .ok (.invokevirtual 179, 3) := by decide +kernel
theorem dX9_digest_82 : decode cX9_digest 82 = .ok (.i2l, 1) := by decide +kernel
theorem dX9_digest_83 : decode cX9_digest 83 = .ok (.ladd, 1) := by decide +kernel
theorem dX9_digest_84 : decode cX9_digest 84 = .ok (.lstore_n 1, 1) := by decide +kernel
theorem dX9_digest_85 : decode cX9_digest 85 = .ok (.ldc2_w 255, 3) := by decide +kernel
theorem dX9_digest_88 : decode cX9_digest 88 = .ok (.lload_n 1, 1) := by decide +kernel
theorem dX9_digest_89 : decode cX9_digest 89 = .ok (.lmul, 1) := by decide +kernel
theorem dX9_digest_90 : decode cX9_digest 90 = .ok (.aload_n 0, 1) := by decide +kernel
theorem dX9_digest_91 : decode cX9_digest 91 = .ok (.getfield 29, 3) := by decide +kernel
theorem dX9_digest_94 : decode cX9_digest 94 = .ok (.aload_n 0, 1) := by decide +kernel
theorem dX9_digest_95 : decode cX9_digest 95 = .ok (.getfield 19, 3) := by decide +kernel
theorem dX9_digest_98 : decode cX9_digest 98 = .ok (.iconst 3, 1) := by decide +kernel
theorem dX9_digest_99 : decode cX9_digest 99 = .ok (.iconst 0, 1) := by decide +kernel
theorem dX9_digest_100 : decode cX9_digest 100 = .ok (.invokevirtual 192, 3) := by decide +kernel
theorem dX9_digest_103 : decode cX9_digest 103 = .ok (.i2l, 1) := by decide +kernel
theorem dX9_digest_104 : decode cX9_digest 104 = .ok (.ladd, 1) := by decide +kernel
theorem dX9_digest_105 : decode cX9_digest 105 = .ok (.lstore_n 1, 1) := by decide +kernel
theorem dX9_digest_106 : decode cX9_digest 106 = .ok (.ldc2_w 255, 3) := by decide +kernel
theorem dX9_digest_109 : decode cX9_digest 109 = .ok (.lload_n 1, 1) := by decide +kernel
theorem dX9_digest_110 : decode cX9_digest 110 = .ok (.lmul, 1) := by decide +kernel
theorem dX9_digest_111 : decode cX9_digest 111 = .ok (.aload_n 0, 1) := by decide +kernel
theorem dX9_digest_112 : decode cX9_digest 112 = .ok (.getfield 29, 3) := by decide +kernel
theorem dX9_digest_115 : decode cX9_digest 115 = .ok (.aload_n 0, 1) := by decide +kernel
theorem dX9_digest_116 : decode cX9_digest 116 = .ok (.getfield 19, 3) := by decide +kernel
theorem dX9_digest_119 : decode cX9_digest 119 = .ok (.iconst 3, 1) := by decide +kernel
theorem dX9_digest_120 : decode cX9_digest 120 = .ok (.iconst 1, 1) := by decide +kernel
theorem dX9_digest_121 : decode cX9_digest 121 = .ok (.invokevirtual 192, 3) := by decide +kernel
theorem dX9_digest_124 : decode cX9_digest 124 = .ok (.i2l, 1) := by decide +kernel
theorem dX9_digest_125 : decode cX9_digest 125 = .ok (.ladd, 1) := by decide +kernel
theorem dX9_digest_126 : decode cX9_digest 126 = .ok (.lstore_n 1, 1) := by decide +kernel
theorem dX9_digest_127 : decode cX9_digest 127 = .ok (.iconst 0, 1) := by decide +kernel
theorem dX9_digest_128 : decode cX9_digest 128 = .ok (.istore_n 3, 1) := by decide +kernel
theorem dX9_digest_129 : decode cX9_digest 129 = .ok (.iload_n 3, 1) := by decide +kernel
theorem dX9_digest_130 : decode cX9_digest 130 = .ok (.aload_n 0, 1) := by decide +kernel
theorem dX9_digest_131 : decode cX9_digest 131 = .ok (.getfield 12, 3) := by decide +kernel
theorem dX9_digest_134 : decode cX9_digest 134 = .ok (.getfield 48, 3) := by decide +kernel
theorem dX9_digest_137 : decode cX9_digest 137 = .ok (.if_icmp .ge 25, 3) := by decide +kernel
theorem dX9_digest_140 : decode cX9_digest 140 = .ok (.ldc2_w 255, 3) := by decide +kernel
theorem dX9_digest_143 : decode cX9_digest 143 = .ok (.lload_n 1, 1) := by decide +kernel
theorem dX9_digest_144 : decode cX9_digest 144 = .ok (.lmul, 1) := by decide +kernel
theorem dX9_digest_145 : decode cX9_digest 145 = .ok (.aload_n 0, 1) := by decide +kernel
theorem dX9_digest_146 : decode cX9_digest 146 = .ok (.getfield 12, 3) := by decide +kernel
theorem dX9_digest_149 : decode cX9_digest 149 = .ok (.iload_n 3, 1) := by decide +kernel
theorem dX9_digest_150 : decode cX9_digest 150 = .ok (.invokevirtual 263, 3) := by decide +kernel
theorem dX9_digest_153 : decode cX9_digest 153 = .ok (.i2l, 1) := by decide +kernel
theorem dX9_digest_154 : decode cX9_digest 154 = .ok (.ladd, 1) := by decide +kernel
theorem dX9_digest_155 : decode cX9_digest 155 = .ok (.lstore_n 1, 1) := by decide +kernel
theorem dX9_digest_156 : decode cX9_digest 156 = .ok (.iinc 3 1, 3) := by decide +kernel
theorem dX9_digest_159 : decode cX9_digest 159 = .ok (.goto (-30), 3) := by decide +kernel
theorem dX9_digest_162 : decode cX9_digest 162 = .ok (.iconst 0, 1) := by decide +kernel
theorem dX9_digest_163 : decode cX9_digest 163 = .ok (.istore_n 3, 1) := by decide +kernel
theorem dX9_digest_164 : decode cX9_digest 164 = .ok (.iload_n 3, 1) := by decide +kernel
theorem dX9_digest_165 : decode cX9_digest 165 = .ok (.bipush 14, 2) := by decide +kernel
theorem dX9_digest_167 : decode cX9_digest 167 = .ok (.if_icmp .gt 22, 3) := by decide +kernel
theorem dX9_digest_170 : decode cX9_digest 170 = .ok (.ldc2_w 255, 3) := by decide +kernel
theorem dX9_digest_173 : decode cX9_digest 173 = .ok (.lload_n 1, 1) := by decide +kernel
theorem dX9_digest_174 : decode cX9_digest 174 = .ok (.lmul, 1) := by decide +kernel
theorem dX9_digest_175 : decode cX9_digest 175 = .ok (.aload_n 0, 1) := by decide +kernel
theorem dX9_digest_176 : decode cX9_digest 176 = .ok (.iload_n 3, 1) := by decide +kernel
theorem dX9_digest_177 : decode cX9_digest 177 = .ok (.invokevirtual 266, 3) := by decide +kernel
theorem dX9_digest_180 : decode cX9_digest 180 = .ok (.i2l, 1) := by decide +kernel
theorem dX9_digest_181 : decode cX9_digest 181 = .ok (.ladd, 1) := by decide +kernel
theorem dX9_digest_182 : decode cX9_digest 182 = .ok (.lstore_n 1, 1) := by decide +kernel
theorem dX9_digest_183 : decode cX9_digest 183 = .ok (.iinc 3 1, 3) := by decide +kernel
theorem dX9_digest_186 : decode cX9_digest 186 = .ok (.goto (-22), 3) := by decide +kernel
theorem dX9_digest_189 : decode cX9_digest 189 = .ok (.lload_n 1, 1) := by decide +kernel
theorem dX9_digest_190 : decode cX9_digest 190 = .ok (.lreturn, 1) := by decide +kernel
theorem dX9_foldLasting_0 : decode cX9_foldLasting 0 = .ok (.aload_n 0, 1) := by decide +kernel
theorem dX9_foldLasting_1 : decode cX9_foldLasting 1 = .ok (.getfield 36, 3) := by decide +kernel
theorem dX9_foldLasting_4 : decode cX9_foldLasting 4 = .ok (.aload_n 0, 1) := by decide +kernel
theorem dX9_foldLasting_5 : decode cX9_foldLasting 5 = .ok (.getfield 19, 3) := by decide +kernel
theorem dX9_foldLasting_8 : decode cX9_foldLasting 8 = .ok (.invokevirtual 171, 3) := by decide +kernel
theorem dX9_foldLasting_11 : decode cX9_foldLasting 11 = .ok (.ldc2_w 255, 3) := by decide +kernel
theorem dX9_foldLasting_14 : decode cX9_foldLasting 14 = .ok (.lload_n 1, 1) := by decide +kernel
theorem dX9_foldLasting_15 : decode cX9_foldLasting 15 = .ok (.lmul, 1) := by decide +kernel
theorem dX9_foldLasting_16 : decode cX9_foldLasting 16 = .ok (.aload_n 0, 1) := by decide +kernel
theorem dX9_foldLasting_17 : decode cX9_foldLasting 17 = .ok (.getfield 36, 3) := by decide +kernel
theorem dX9_foldLasting_20 : decode cX9_foldLasting 20 = .ok (.iconst 0, 1) := by decide +kernel
theorem dX9_foldLasting_21 : decode cX9_foldLasting 21 = .ok (.invokevirtual 175, 3) := by decide +kernel
theorem dX9_foldLasting_24 : decode cX9_foldLasting 24 = .ok (.i2l, 1) := by decide +kernel
theorem dX9_foldLasting_25 : decode cX9_foldLasting 25 = .ok (.ladd, 1) := by decide +kernel
theorem dX9_foldLasting_26 : decode cX9_foldLasting 26 = .ok (.lstore_n 3, 1) := by decide +kernel
theorem dX9_foldLasting_27 : decode cX9_foldLasting 27 = .ok (.ldc2_w 255, 3) := by decide +kernel
theorem dX9_foldLasting_30 : decode cX9_foldLasting 30 = .ok (.lload_n 3, 1) := by decide +kernel
theorem dX9_foldLasting_31 : decode cX9_foldLasting 31 = .ok (.lmul, 1) := by decide +kernel
theorem dX9_foldLasting_32 : decode cX9_foldLasting 32 = .ok (.aload_n 0, 1) := by decide +kernel
theorem dX9_foldLasting_33 : decode cX9_foldLasting 33 = .ok (.getfield 36, 3) := by decide +kernel
theorem dX9_foldLasting_36 : decode cX9_foldLasting 36 = .ok (.iconst 1, 1) := by decide +kernel
theorem dX9_foldLasting_37 : decode cX9_foldLasting 37 = .ok (.invokevirtual 175, 3) := by decide +kernel
theorem dX9_foldLasting_40 : decode cX9_foldLasting 40 = .ok (.i2l, 1) := by decide +kernel
theorem dX9_foldLasting_41 : decode cX9_foldLasting 41 = .ok (.ladd, 1) := by decide +kernel
theorem dX9_foldLasting_42 : decode cX9_foldLasting 42 = .ok (.lstore_n 3, 1) := by decide +kernel
theorem dX9_foldLasting_43 : decode cX9_foldLasting 43 = .ok (.bipush 10, 2) := by decide +kernel
theorem dX9_foldLasting_45 : decode cX9_foldLasting 45 = .ok (.istore 5, 2) := by decide +kernel
theorem dX9_foldLasting_47 : decode cX9_foldLasting 47 = .ok (.iload 5, 2) := by decide +kernel
theorem dX9_foldLasting_49 : decode cX9_foldLasting 49 = .ok (.bipush 13, 2) := by decide +kernel
theorem dX9_foldLasting_51 : decode cX9_foldLasting 51 = .ok (.if_icmp .gt 26, 3) := by decide +kernel
theorem dX9_foldLasting_54 : decode cX9_foldLasting 54 = .ok (.ldc2_w 255, 3) := by decide +kernel
theorem dX9_foldLasting_57 : decode cX9_foldLasting 57 = .ok (.lload_n 3, 1) := by decide +kernel
theorem dX9_foldLasting_58 : decode cX9_foldLasting 58 = .ok (.lmul, 1) := by decide +kernel
theorem dX9_foldLasting_59 : decode cX9_foldLasting 59 = .ok (.aload_n 0, 1) := by decide +kernel
theorem dX9_foldLasting_60 : decode cX9_foldLasting 60 = .ok (.getfield 36, 3) := by decide +kernel
theorem dX9_foldLasting_63 : decode cX9_foldLasting 63 = .ok (.iload 5, 2) := by decide +kernel
theorem dX9_foldLasting_65 : decode cX9_foldLasting 65 = .ok (.invokevirtual 175, 3) := by decide +kernel
theorem dX9_foldLasting_68 : decode cX9_foldLasting 68 = .ok (.i2l, 1) := by decide +kernel
theorem dX9_foldLasting_69 : decode cX9_foldLasting 69 = .ok (.ladd, 1) := by decide +kernel
theorem dX9_foldLasting_70 : decode cX9_foldLasting 70 = .ok (.lstore_n 3, 1) := by decide +kernel
theorem dX9_foldLasting_71 : decode cX9_foldLasting 71 = .ok (.iinc 5 1, 3) := by decide +kernel
theorem dX9_foldLasting_74 : decode cX9_foldLasting 74 = .ok (.goto (-27), 3) := by decide +kernel
theorem dX9_foldLasting_77 : decode cX9_foldLasting 77 = .ok (.lload_n 3, 1) := by decide +kernel
theorem dX9_foldLasting_78 : decode cX9_foldLasting 78 = .ok (.lreturn, 1) := by decide +kernel
theorem dX9_isWithin_0 : decode cX9_isWithin 0 = .ok (.iload_n 0, 1) := by decide +kernel
theorem dX9_isWithin_1 : decode cX9_isWithin 1 = .ok (.iload_n 1, 1) := by decide +kernel
theorem dX9_isWithin_2 : decode cX9_isWithin 2 = .ok (.if_icmp .lt 12, 3) := by decide +kernel
theorem dX9_isWithin_5 : decode cX9_isWithin 5 = .ok (.iload_n 0, 1) := by decide +kernel
theorem dX9_isWithin_6 : decode cX9_isWithin 6 = .ok (.iload_n 2, 1) := by decide +kernel
theorem dX9_isWithin_7 : decode cX9_isWithin 7 = .ok (.if_icmp .gt 7, 3) := by decide +kernel
theorem dX9_isWithin_10 : decode cX9_isWithin 10 = .ok (.iconst 1, 1) := by decide +kernel
theorem dX9_isWithin_11 : decode cX9_isWithin 11 = .ok (.goto 4, 3) := by decide +kernel
theorem dX9_isWithin_14 : decode cX9_isWithin 14 = .ok (.iconst 0, 1) := by decide +kernel
theorem dX9_isWithin_15 : decode cX9_isWithin 15 = .ok (.ireturn, 1) := by decide +kernel
theorem dX9_isLimit_0 : decode cX9_isLimit 0 = .ok (.iload_n 0, 1) := by decide +kernel
theorem dX9_isLimit_1 : decode cX9_isLimit 1 = .ok (.iconst 1, 1) := by decide +kernel
theorem dX9_isLimit_2 : decode cX9_isLimit 2 = .ok (.bipush 9, 2) := by decide +kernel
theorem dX9_isLimit_4 : decode cX9_isLimit 4 = .ok (.invokestatic 40, 3) := by decide +kernel
theorem dX9_isLimit_7 : decode cX9_isLimit 7 = .ok (.ireturn, 1) := by decide +kernel
theorem dX10_init_0 : decode cX10_init 0 = .ok (.aload_n 0, 1) := by decide +kernel
theorem dX10_init_1 : decode cX10_init 1 = .ok (.invokespecial 1, 3) := by decide +kernel
theorem dX10_init_4 : decode cX10_init 4 = .ok (.aload_n 0, 1) := by decide +kernel
theorem dX10_init_5 : decode cX10_init 5 = .ok (.bipush 8, 2) := by decide +kernel
theorem dX10_init_7 : decode cX10_init 7 = .ok (.newarray .int, 2) := by decide +kernel
theorem dX10_init_9 : decode cX10_init 9 = .ok (.putfield 7, 3) := by decide +kernel
theorem dX10_init_12 : decode cX10_init 12 = .ok (.aload_n 0, 1) := by decide +kernel
theorem dX10_init_13 : decode cX10_init 13 = .ok (.bipush 8, 2) := by decide +kernel
theorem dX10_init_15 : decode cX10_init 15 = .ok (.newarray .int, 2) := by decide +kernel
theorem dX10_init_17 : decode cX10_init 17 = .ok (.putfield 13, 3) := by decide +kernel
theorem dX10_init_20 : decode cX10_init 20 = .ok (.aload_n 0, 1) := by decide +kernel
theorem dX10_init_21 : decode cX10_init 21 = .ok (.bipush 8, 2) := by decide +kernel
theorem dX10_init_23 : decode cX10_init 23 = .ok (.newarray .int, 2) := by decide +kernel
theorem dX10_init_25 : decode cX10_init 25 = .ok (.putfield 16, 3) := by decide +kernel
theorem dX10_init_28 : decode cX10_init 28 = .ok (.aload_n 0, 1) := by decide +kernel
theorem dX10_init_29 : decode cX10_init 29 = .ok (.bipush 8, 2) := by decide +kernel
theorem dX10_init_31 : decode cX10_init 31 = .ok (.newarray .int, 2) := by decide +kernel
theorem dX10_init_33 : decode cX10_init 33 = .ok (.putfield 19, 3) := by decide +kernel
theorem dX10_init_36 : decode cX10_init 36 = .ok (.aload_n 0, 1) := by decide +kernel
theorem dX10_init_37 : decode cX10_init 37 = .ok (.bipush 8, 2) := by decide +kernel
theorem dX10_init_39 : decode cX10_init 39 = .ok (.newarray .int, 2) := by decide +kernel
theorem dX10_init_41 : decode cX10_init 41 = .ok (.putfield 22, 3) := by decide +kernel
theorem dX10_init_44 : decode cX10_init 44 = .ok (.aload_n 0, 1) := by decide +kernel
theorem dX10_init_45 : decode cX10_init 45 = .ok (.bipush 8, 2) := by decide +kernel
theorem dX10_init_47 : decode cX10_init 47 = .ok (.newarray .int, 2) := by decide +kernel
theorem dX10_init_49 : decode cX10_init 49 = .ok (.putfield 25, 3) := by decide +kernel
theorem dX10_init_52 : decode cX10_init 52 = .ok (.aload_n 0, 1) := by decide +kernel
theorem dX10_init_53 : decode cX10_init 53 = .ok (.bipush 8, 2) := by decide +kernel
theorem dX10_init_55 : decode cX10_init 55 = .ok (.newarray .int, 2) := by decide +kernel
theorem dX10_init_57 : decode cX10_init 57 = .ok (.putfield 28, 3) := by decide +kernel
theorem dX10_init_60 : decode cX10_init 60 = .ok (.aload_n 0, 1) := by decide +kernel
theorem dX10_init_61 : decode cX10_init 61 = .ok (.bipush 8, 2) := by decide +kernel
theorem dX10_init_63 : decode cX10_init 63 = .ok (.newarray .int, 2) := by decide +kernel
theorem dX10_init_65 : decode cX10_init 65 = .ok (.putfield 31, 3) := by decide +kernel
theorem dX10_init_68 : decode cX10_init 68 = .ok (.aload_n 0, 1) := by decide +kernel
theorem dX10_init_69 : decode cX10_init 69 = .ok (.bipush 8, 2) := by decide +kernel
theorem dX10_init_71 : decode cX10_init 71 = .ok (.newarray .int, 2) := by decide +kernel
theorem dX10_init_73 : decode cX10_init 73 = .ok (.putfield 34, 3) := by decide +kernel
theorem dX10_init_76 : decode cX10_init 76 = .ok (.aload_n 0, 1) := by decide +kernel
theorem dX10_init_77 : decode cX10_init 77 = .ok (.bipush 8, 2) := by decide +kernel
theorem dX10_init_79 : decode cX10_init 79 = .ok (.newarray .int, 2) := by decide +kernel
theorem dX10_init_81 : decode cX10_init 81 = .ok (.putfield 37, 3) := by decide +kernel
theorem dX10_init_84 : decode cX10_init 84 = .ok (.aload_n 0, 1) := by decide +kernel
theorem dX10_init_85 : decode cX10_init 85 = .ok (.bipush 8, 2) := by decide +kernel
theorem dX10_init_87 : decode cX10_init 87 = .ok (.newarray .int, 2) := by decide +kernel
theorem dX10_init_89 : decode cX10_init 89 = .ok (.putfield 40, 3) := by decide +kernel
theorem dX10_init_92 : decode cX10_init 92 = .ok (.aload_n 0, 1) := by decide +kernel
theorem dX10_init_93 : decode cX10_init 93 = .ok (.bipush 8, 2) := by decide +kernel
theorem dX10_init_95 : decode cX10_init 95 = .ok (.newarray .int, 2) := by decide +kernel
theorem dX10_init_97 : decode cX10_init 97 = .ok (.putfield 43, 3) := by decide +kernel
theorem dX10_init_100 : decode cX10_init 100 = .ok (.aload_n 0, 1) := by decide +kernel
theorem dX10_init_101 : decode cX10_init 101 = .ok (.bipush 41, 2) := by decide +kernel
theorem dX10_init_103 : decode cX10_init 103 = .ok (.newarray .byte, 2) := by decide +kernel
theorem dX10_init_105 : decode cX10_init 105 = .ok (.putfield 46, 3) := by decide +kernel
theorem dX10_init_108 : decode cX10_init 108 = .ok (.aload_n 0, 1) := by decide +kernel
theorem dX10_init_109 : decode cX10_init 109 = .ok (.iconst 4, 1) := by decide +kernel
theorem dX10_init_110 : decode cX10_init 110 = .ok (.newarray .int, 2) := by decide +kernel
theorem dX10_init_112 : decode cX10_init 112 = .ok (.putfield 50, 3) := by decide +kernel
theorem dX10_init_115 : decode cX10_init 115 = .ok (.aload_n 0, 1) := by decide +kernel
theorem dX10_init_116 : decode cX10_init 116 = .ok (.iconst 4, 1) := by decide +kernel
theorem dX10_init_117 : decode cX10_init 117 = .ok (.newarray .int, 2) := by decide +kernel
theorem dX10_init_119 : decode cX10_init 119 = .ok (.putfield 53, 3) := by decide +kernel
theorem dX10_init_122 : decode cX10_init 122 = .ok (.aload_n 0, 1) := by decide +kernel
theorem dX10_init_123 : decode cX10_init 123 = .ok (.bipush 8, 2) := by decide +kernel
theorem dX10_init_125 : decode cX10_init 125 = .ok (.newarray .int, 2) := by decide +kernel
theorem dX10_init_127 : decode cX10_init 127 = .ok (.putfield 56, 3) := by decide +kernel
theorem dX10_init_130 : decode cX10_init 130 = .ok (.aload_n 0, 1) := by decide +kernel
theorem dX10_init_131 : decode cX10_init 131 = .ok (.bipush 8, 2) := by decide +kernel
theorem dX10_init_133 : decode cX10_init 133 = .ok (.newarray .int, 2) := by decide +kernel
theorem dX10_init_135 : decode cX10_init 135 = .ok (.putfield 59, 3) := by decide +kernel
theorem dX10_init_138 : decode cX10_init 138 = .ok (.aload_n 0, 1) := by decide +kernel
theorem dX10_init_139 : decode cX10_init 139 = .ok (.bipush 8, 2) := by decide +kernel
theorem dX10_init_141 : decode cX10_init 141 = .ok (.newarray .int, 2) := by decide +kernel
theorem dX10_init_143 : decode cX10_init 143 = .ok (.putfield 62, 3) := by decide +kernel
theorem dX10_init_146 : decode cX10_init 146 = .ok (.aload_n 0, 1) := by decide +kernel
theorem dX10_init_147 : decode cX10_init 147 = .ok (.bipush 8, 2) := by decide +kernel
theorem dX10_init_149 : decode cX10_init 149 = .ok (.newarray .int, 2) := by decide +kernel
theorem dX10_init_151 : decode cX10_init 151 = .ok (.putfield 65, 3) := by decide +kernel
theorem dX10_init_154 : decode cX10_init 154 = .ok (.aload_n 0, 1) := by decide +kernel
theorem dX10_init_155 : decode cX10_init 155 = .ok (.bipush 8, 2) := by decide +kernel
theorem dX10_init_157 : decode cX10_init 157 = .ok (.newarray .int, 2) := by decide +kernel
theorem dX10_init_159 : decode cX10_init 159 = .ok (.putfield 68, 3) := by decide +kernel
theorem dX10_init_162 : decode cX10_init 162 = .ok (.aload_n 0, 1) := by decide +kernel
theorem dX10_init_163 : decode cX10_init 163 = .ok (.bipush 8, 2) := by decide +kernel
theorem dX10_init_165 : decode cX10_init 165 = .ok (.newarray .int, 2) := by decide +kernel
theorem dX10_init_167 : decode cX10_init 167 = .ok (.putfield 71, 3) := by decide +kernel
theorem dX10_init_170 : decode cX10_init 170 = .ok (.aload_n 0, 1) := by decide +kernel
theorem dX10_init_171 : decode cX10_init 171 = .ok (.bipush 8, 2) := by decide +kernel
theorem dX10_init_173 : decode cX10_init 173 = .ok (.newarray .int, 2) := by decide +kernel
theorem dX10_init_175 : decode cX10_init 175 = .ok (.putfield 74, 3) := by decide +kernel
theorem dX10_init_178 : decode cX10_init 178 = .ok (.aload_n 0, 1) := by decide +kernel
theorem dX10_init_179 : decode cX10_init 179 = .ok (.bipush 8, 2) := by decide +kernel
theorem dX10_init_181 : decode cX10_init 181 = .ok (.newarray .int, 2) := by decide +kernel
theorem dX10_init_183 : decode cX10_init 183 = .ok (.putfield 77, 3) := by decide +kernel
theorem dX10_init_186 : decode cX10_init 186 = .ok (.aload_n 0, 1) := by decide +kernel
theorem dX10_init_187 : decode cX10_init 187 = .ok (.bipush 8, 2) := by decide +kernel
theorem dX10_init_189 : decode cX10_init 189 = .ok (.newarray .int, 2) := by decide +kernel
theorem dX10_init_191 : decode cX10_init 191 = .ok (.putfield 80, 3) := by decide +kernel
theorem dX10_init_194 : decode cX10_init 194 = .ok (.aload_n 0, 1) := by decide +kernel
theorem dX10_init_195 : decode cX10_init 195 = .ok (.bipush 8, 2) := by decide +kernel
theorem dX10_init_197 : decode cX10_init 197 = .ok (.newarray .int, 2) := by decide +kernel
theorem dX10_init_199 : decode cX10_init 199 = .ok (.putfield 83, 3) := by decide +kernel
theorem dX10_init_202 : decode cX10_init 202 = .ok (.aload_n 0, 1) := by decide +kernel
theorem dX10_init_203 : decode cX10_init 203 = .ok (.bipush 8, 2) := by decide +kernel
theorem dX10_init_205 : decode cX10_init 205 = .ok (.newarray .int, 2) := by decide +kernel
theorem dX10_init_207 : decode cX10_init 207 = .ok (.putfield 86, 3) := by decide +kernel
theorem dX10_init_210 : decode cX10_init 210 = .ok (.aload_n 0, 1) := by decide +kernel
theorem dX10_init_211 : decode cX10_init 211 = .ok (.bipush 8, 2) := by decide +kernel
theorem dX10_init_213 : decode cX10_init 213 = .ok (.newarray .int, 2) := by decide +kernel
theorem dX10_init_215 : decode cX10_init 215 = .ok (.putfield 89, 3) := by decide +kernel
theorem dX10_init_218 : decode cX10_init 218 = .ok (.aload_n 0, 1) := by decide +kernel
theorem dX10_init_219 : decode cX10_init 219 = .ok (.bipush 8, 2) := by decide +kernel
theorem dX10_init_221 : decode cX10_init 221 = .ok (.newarray .int, 2) := by decide +kernel
theorem dX10_init_223 : decode cX10_init 223 = .ok (.putfield 92, 3) := by decide +kernel
theorem dX10_init_226 : decode cX10_init 226 = .ok (.aload_n 0, 1) := by decide +kernel
theorem dX10_init_227 : decode cX10_init 227 = .ok (.bipush 8, 2) := by decide +kernel
theorem dX10_init_229 : decode cX10_init 229 = .ok (.newarray .int, 2) := by decide +kernel
theorem dX10_init_231 : decode cX10_init 231 = .ok (.putfield 95, 3) := by decide +kernel
theorem dX10_init_234 : decode cX10_init 234 = .ok (.return_, 1) := by decide +kernel
theorem dX10_within_0 : decode cX10_within 0 = .ok (.iload_n 0, 1) := by decide +kernel
theorem dX10_within_1 : decode cX10_within 1 = .ok (.iload_n 1, 1) := by decide +kernel
theorem dX10_within_2 : decode cX10_within 2 = .ok (.if_icmp .lt 12, 3) := by decide +kernel
theorem dX10_within_5 : decode cX10_within 5 = .ok (.iload_n 0, 1) := by decide +kernel
theorem dX10_within_6 : decode cX10_within 6 = .ok (.iload_n 2, 1) := by decide +kernel
theorem dX10_within_7 : decode cX10_within 7 = .ok (.if_icmp .gt 7, 3) := by decide +kernel
theorem dX10_within_10 : decode cX10_within 10 = .ok (.iconst 1, 1) := by decide +kernel
theorem dX10_within_11 : decode cX10_within 11 = .ok (.goto 4, 3) := by decide +kernel
theorem dX10_within_14 : decode cX10_within 14 = .ok (.iconst 0, 1) := by decide +kernel
theorem dX10_within_15 : decode cX10_within 15 = .ok (.ireturn, 1) := by decide +kernel
theorem dX10_isIn_0 : decode cX10_isIn 0 = .ok (.iload_n 0, 1) := by decide +kernel
theorem dX10_isIn_1 : decode cX10_isIn 1 = .ok (.iload_n 1, 1) := by decide +kernel
theorem dX10_isIn_2 : decode cX10_isIn 2 = .ok (.ishr, 1) := by decide +kernel
theorem dX10_isIn_3 : decode cX10_isIn 3 = .ok (.iconst 1, 1) := by decide +kernel
theorem dX10_isIn_4 : decode cX10_isIn 4 = .ok (.iand, 1) := by decide +kernel
theorem dX10_isIn_5 : decode cX10_isIn 5 = .ok (.iconst 1, 1) := by decide +kernel
theorem dX10_isIn_6 : decode cX10_isIn 6 = .ok (.if_icmp .ne 7, 3) := by decide +kernel
theorem dX10_isIn_9 : decode cX10_isIn 9 = .ok (.iconst 1, 1) := by decide +kernel
theorem dX10_isIn_10 : decode cX10_isIn 10 = .ok (.goto 4, 3) := by decide +kernel
theorem dX10_isIn_13 : decode cX10_isIn 13 = .ok (.iconst 0, 1) := by decide +kernel
theorem dX10_isIn_14 : decode cX10_isIn 14 = .ok (.ireturn, 1) := by decide +kernel
theorem dX10_size_0 : decode cX10_size 0 = .ok (.iconst 0, 1) := by decide +kernel
theorem dX10_size_1 : decode cX10_size 1 = .ok (.istore_n 1, 1) := by decide +kernel
theorem dX10_size_2 : decode cX10_size 2 = .ok (.iconst 0, 1) := by decide +kernel
theorem dX10_size_3 : decode cX10_size 3 = .ok (.istore_n 2, 1) := by decide +kernel
theorem dX10_size_4 : decode cX10_size 4 = .ok (.iload_n 2, 1) := by decide +kernel
theorem dX10_size_5 : decode cX10_size 5 = .ok (.bipush 10, 2) := by decide +kernel
theorem dX10_size_7 : decode cX10_size 7 = .ok (.if_icmp .ge 17, 3) := by decide +kernel
theorem dX10_size_10 : decode cX10_size 10 = .ok (.iload_n 1, 1) := by decide +kernel
theorem dX10_size_11 : decode cX10_size 11 = .ok (.iload_n 0, 1) := by decide +kernel
theorem dX10_size_12 : decode cX10_size 12 = .ok (.iload_n 2, 1) := by decide +kernel
theorem dX10_size_13 : decode cX10_size 13 = .ok (.ishr, 1) := by decide +kernel
theorem dX10_size_14 : decode cX10_size 14 = .ok (.iconst 1, 1) := by decide +kernel
theorem dX10_size_15 : decode cX10_size 15 = .ok (.iand, 1) := by decide +kernel
theorem dX10_size_16 : decode cX10_size 16 = .ok (.iadd, 1) := by decide +kernel
theorem dX10_size_17 : decode cX10_size 17 = .ok (.istore_n 1, 1) := by decide +kernel
theorem dX10_size_18 : decode cX10_size 18 = .ok (.iinc 2 1, 3) := by decide +kernel
theorem dX10_size_21 : decode cX10_size 21 = .ok (.goto (-17), 3) := by decide +kernel
theorem dX10_size_24 : decode cX10_size 24 = .ok (.iload_n 1, 1) := by decide +kernel
theorem dX10_size_25 : decode cX10_size 25 = .ok (.ireturn, 1) := by decide +kernel
theorem dX10_divisor_0 : decode cX10_divisor 0 = .ok (.iload_n 0, 1) := by decide +kernel
theorem dX10_divisor_1 : decode cX10_divisor 1 = .ok (.istore_n 2, 1) := by decide +kernel
theorem dX10_divisor_2 : decode cX10_divisor 2 = .ok (.iload_n 1, 1) := by decide +kernel
theorem dX10_divisor_3 : decode cX10_divisor 3 = .ok (.istore_n 3, 1) := by decide +kernel
theorem dX10_divisor_4 : decode cX10_divisor 4 = .ok (.iload_n 3, 1) := by decide +kernel
theorem dX10_divisor_5 : decode cX10_divisor 5 = .ok (.ifCond .eq 16, 3) := by decide +kernel
theorem dX10_divisor_8 : decode cX10_divisor 8 = .ok (.iload_n 2, 1) := by decide +kernel
theorem dX10_divisor_9 : decode cX10_divisor 9 = .ok (.iload_n 3, 1) := by decide +kernel
theorem dX10_divisor_10 : decode cX10_divisor 10 = .ok (.irem, 1) := by decide +kernel
theorem dX10_divisor_11 : decode cX10_divisor 11 = .ok (.istore 4, 2) := by decide +kernel
theorem dX10_divisor_13 : decode cX10_divisor 13 = .ok (.iload_n 3, 1) := by decide +kernel
theorem dX10_divisor_14 : decode cX10_divisor 14 = .ok (.istore_n 2, 1) := by decide +kernel
theorem dX10_divisor_15 : decode cX10_divisor 15 = .ok (.iload 4, 2) := by decide +kernel
theorem dX10_divisor_17 : decode cX10_divisor 17 = .ok (.istore_n 3, 1) := by decide +kernel
theorem dX10_divisor_18 : decode cX10_divisor 18 = .ok (.goto (-14), 3) := by decide +kernel
theorem dX10_divisor_21 : decode cX10_divisor 21 = .ok (.iload_n 2, 1) := by decide +kernel
theorem dX10_divisor_22 : decode cX10_divisor 22 = .ok (.ireturn, 1) := by decide +kernel
theorem dX10_letter_0 : decode cX10_letter 0 = .ok (.iload_n 1, 1) := by decide +kernel
theorem dX10_letter_1 : decode cX10_letter 1 = .ok (.bipush 32, 2) := by decide +kernel
theorem dX10_letter_3 : decode cX10_letter 3 = .ok (.bipush 126, 2) := by decide +kernel
theorem dX10_letter_5 : decode cX10_letter 5 = .ok (.invokestatic 98, 3) := by decide +kernel
theorem dX10_letter_8 : decode cX10_letter 8 = .ok (.ifCond .ne 6, 3) := by decide +kernel
theorem dX10_letter_11 : decode cX10_letter 11 = .ok (.bipush (-102), 2) := by decide +kernel
theorem dX10_letter_13 : decode cX10_letter 13 = .ok (.ireturn, 1) := by decide +kernel
theorem dX10_letter_14 : decode cX10_letter 14 = .ok (.aload_n 0, 1) := by decide +kernel
theorem dX10_letter_15 : decode cX10_letter 15 = .ok (.getfield 102, 3) := by decide +kernel
theorem dX10_letter_18 : decode cX10_letter 18 = .ok (.bipush 41, 2) := by decide +kernel
theorem dX10_letter_20 : decode cX10_letter 20 = .ok (.if_icmp .ne 6, 3) := by decide +kernel
theorem dX10_letter_23 : decode cX10_letter 23 = .ok (.bipush (-104), 2) := by decide +kernel
theorem dX10_letter_25 : decode cX10_letter 25 = .ok (.ireturn, 1) := by decide +kernel
theorem dX10_letter_26 : decode cX10_letter 26 = .ok (.aload_n 0, 1) := by decide +kernel
theorem dX10_letter_27 : decode cX10_letter 27 = .ok (.getfield 46, 3) := by decide +kernel
theorem dX10_letter_30 : decode cX10_letter 30 = .ok (.aload_n 0, 1) := by decide +kernel
theorem dX10_letter_31 : decode cX10_letter 31 = .ok (.getfield 102, 3) := by decide +kernel
theorem dX10_letter_34 : decode cX10_letter 34 = .ok (.iload_n 1, 1) := by decide +kernel
theorem dX10_letter_35 : decode cX10_letter 35 = .ok (.i2b, 1) := by decide +kernel
theorem dX10_letter_36 : decode cX10_letter 36 = .ok (.bastore, 1) := by decide +kernel
theorem dX10_letter_37 : decode cX10_letter 37 = .ok (.aload_n 0, 1) := by decide +kernel
theorem dX10_letter_38 : decode cX10_letter 38 = .ok (.dup, 1) := by decide +kernel
theorem dX10_letter_39 : decode cX10_letter 39 = .ok (.getfield 102, 3) := by decide +kernel
theorem dX10_letter_42 : decode cX10_letter 42 = .ok (.iconst 1, 1) := by decide +kernel
theorem dX10_letter_43 : decode cX10_letter 43 = .ok (.iadd, 1) := by decide +kernel
theorem dX10_letter_44 : decode cX10_letter 44 = .ok (.putfield 102, 3) := by decide +kernel
theorem dX10_letter_47 : decode cX10_letter 47 = .ok (.aload_n 0, 1) := by decide +kernel
theorem dX10_letter_48 : decode cX10_letter 48 = .ok (.getfield 102, 3) := by decide +kernel
theorem dX10_letter_51 : decode cX10_letter 51 = .ok (.ireturn, 1) := by decide +kernel
theorem dX10_blank_0 : decode cX10_blank 0 = .ok (.aload_n 0, 1) := by decide +kernel
theorem dX10_blank_1 : decode cX10_blank 1 = .ok (.getfield 102, 3) := by decide +kernel
theorem dX10_blank_4 : decode cX10_blank 4 = .ok (.istore_n 1, 1) := by decide +kernel
theorem dX10_blank_5 : decode cX10_blank 5 = .ok (.aload_n 0, 1) := by decide +kernel
theorem dX10_blank_6 : decode cX10_blank 6 = .ok (.iconst 0, 1) := by decide +kernel
theorem dX10_blank_7 : decode cX10_blank 7 = .ok (.putfield 102, 3) := by decide +kernel
theorem dX10_blank_10 : decode cX10_blank 10 = .ok (.iload_n 1, 1) := by decide +kernel
theorem dX10_blank_11 : decode cX10_blank 11 = .ok (.ireturn, 1) := by decide +kernel
theorem dX10_kindBy_0 : decode cX10_kindBy 0 = .ok (.iload_n 0, 1) := by decide +kernel
theorem dX10_kindBy_1 : decode cX10_kindBy 1 = .ok (.tableswitch 85 101 115 #[77, 85, 83, 79, 85, 85, 85, 85, 85, 85, 75, 85, 85, 85, 81], 75) := by decide +kernel
theorem dX10_kindBy_76 : decode cX10_kindBy 76 = .ok (.iconst 0, 1) := by decide +kernel
theorem dX10_kindBy_77 : decode cX10_kindBy 77 = .ok (.ireturn, 1) := by decide +kernel
theorem dX10_kindBy_78 : decode cX10_kindBy 78 = .ok (.iconst 1, 1) := by decide +kernel
theorem dX10_kindBy_79 : decode cX10_kindBy 79 = .ok (.ireturn, 1) := by decide +kernel
theorem dX10_kindBy_80 : decode cX10_kindBy 80 = .ok (.iconst 2, 1) := by decide +kernel
theorem dX10_kindBy_81 : decode cX10_kindBy 81 = .ok (.ireturn, 1) := by decide +kernel
theorem dX10_kindBy_82 : decode cX10_kindBy 82 = .ok (.iconst 3, 1) := by decide +kernel
theorem dX10_kindBy_83 : decode cX10_kindBy 83 = .ok (.ireturn, 1) := by decide +kernel
theorem dX10_kindBy_84 : decode cX10_kindBy 84 = .ok (.iconst 4, 1) := by decide +kernel
theorem dX10_kindBy_85 : decode cX10_kindBy 85 = .ok (.ireturn, 1) := by decide +kernel
theorem dX10_kindBy_86 : decode cX10_kindBy 86 = .ok (.iconst (-1), 1) := by decide +kernel
theorem dX10_kindBy_87 : decode cX10_kindBy 87 = .ok (.ireturn, 1) := by decide +kernel
theorem dX10_at_0 : decode cX10_at 0 = .ok (.iload_n 1, 1) := by decide +kernel
theorem dX10_at_1 : decode cX10_at 1 = .ok (.aload_n 0, 1) := by decide +kernel
theorem dX10_at_2 : decode cX10_at 2 = .ok (.getfield 102, 3) := by decide +kernel
theorem dX10_at_5 : decode cX10_at 5 = .ok (.if_icmp .ge 12, 3) := by decide +kernel
theorem dX10_at_8 : decode cX10_at 8 = .ok (.aload_n 0, 1) := by decide +kernel
theorem dX10_at_9 : decode cX10_at 9 = .ok (.getfield 46, 3) := by decide +kernel
theorem dX10_at_12 : decode cX10_at 12 = .ok (.iload_n 1, 1) := by decide +kernel
theorem dX10_at_13 : decode cX10_at 13 = .ok (.baload, 1) := by decide +kernel
theorem dX10_at_14 : decode cX10_at 14 = .ok (.goto 4, 3) := by decide +kernel
theorem dX10_at_17 : decode cX10_at 17 = .ok (.iconst 0, 1) := by decide +kernel
theorem dX10_at_18 : decode cX10_at 18 = .ok (.ireturn, 1) := by decide +kernel
theorem dX10_isFigure_0 : decode cX10_isFigure 0 = .ok (.aload_n 0, 1) := by decide +kernel
theorem dX10_isFigure_1 : decode cX10_isFigure 1 = .ok (.iload_n 1, 1) := by decide +kernel
theorem dX10_isFigure_2 : decode cX10_isFigure 2 = .ok (.invokevirtual 106, 3) := by decide +kernel
theorem dX10_isFigure_5 : decode cX10_isFigure 5 = .ok (.bipush 48, 2) := by decide +kernel
theorem dX10_isFigure_7 : decode cX10_isFigure 7 = .ok (.isub, 1) := by decide +kernel
theorem dX10_isFigure_8 : decode cX10_isFigure 8 = .ok (.iconst 0, 1) := by decide +kernel
theorem dX10_isFigure_9 : decode cX10_isFigure 9 = .ok (.iload_n 2, 1) := by decide +kernel
theorem dX10_isFigure_10 : decode cX10_isFigure 10 = .ok (.invokestatic 98, 3) := by decide +kernel
theorem dX10_isFigure_13 : decode cX10_isFigure 13 = .ok (.ireturn, 1) := by decide +kernel
theorem dX10_readOne_0 : decode cX10_readOne 0 = .ok (.aload_n 0, 1) := by decide +kernel
theorem dX10_readOne_1 : decode cX10_readOne 1 = .ok (.iload_n 1, 1) := by decide +kernel
theorem dX10_readOne_2 : decode cX10_readOne 2 = .ok (.invokevirtual 106, 3) := by decide +kernel
theorem dX10_readOne_5 : decode cX10_readOne 5 = .ok (.invokestatic 110, 3) := by decide +kernel
theorem dX10_readOne_8 : decode cX10_readOne 8 = .ok (.iconst (-1), 1) := by decide +kernel
theorem dX10_readOne_9 : decode cX10_readOne 9 = .ok (.if_icmp .ne 5, 3) := by decide +kernel
theorem dX10_readOne_12 : decode cX10_readOne 12 = .ok (.iload_n 1, 1) := by decide +kernel
theorem dX10_readOne_13 : decode cX10_readOne 13 = .ok (.ireturn, 1) := by decide +kernel
theorem dX10_readOne_14 : decode cX10_readOne 14 = .ok (.aload_n 0, 1) := by decide +kernel
theorem dX10_readOne_15 : decode cX10_readOne 15 = .ok (.iload_n 1, 1) := by decide +kernel
theorem dX10_readOne_16 : decode cX10_readOne 16 = .ok (.iconst 1, 1) := by decide +kernel
theorem dX10_readOne_17 : decode cX10_readOne 17 = .ok (.iadd, 1) := by decide +kernel
theorem dX10_readOne_18 : decode cX10_readOne 18 = .ok (.bipush 9, 2) := by decide +kernel
theorem dX10_readOne_20 : decode cX10_readOne 20 = .ok (.invokevirtual 113, 3) := by decide +kernel
theorem dX10_readOne_23 : decode cX10_readOne 23 = .ok (.ifCond .ne 9, 3) := by decide +kernel
theorem dX10_readOne_26 : decode cX10_readOne 26 = .ok (.iload_n 1, 1) := by decide +kernel
theorem dX10_readOne_27 : decode cX10_readOne 27 = .ok (.iconst 1, 1) := by decide +kernel
theorem dX10_readOne_28 : decode cX10_readOne 28 = .ok (.iadd, 1) := by decide +kernel
theorem dX10_readOne_29 : decode cX10_readOne 29 = .ok (.goto 41, 3) := by decide +kernel
theorem dX10_readOne_32 : decode cX10_readOne 32 = .ok (.aload_n 0, 1) := by decide +kernel
theorem dX10_readOne_33 : decode cX10_readOne 33 = .ok (.iload_n 1, 1) := by decide +kernel
theorem dX10_readOne_34 : decode cX10_readOne 34 = .ok (.iconst 2, 1) := by decide +kernel
theorem dX10_readOne_35 : decode cX10_readOne 35 = .ok (.iadd, 1) := by decide +kernel
theorem dX10_readOne_36 : decode cX10_readOne 36 = .ok (.iconst 3, 1) := by decide +kernel
theorem dX10_readOne_37 : decode cX10_readOne 37 = .ok (.invokevirtual 113, 3) := by decide +kernel
theorem dX10_readOne_40 : decode cX10_readOne 40 = .ok (.ifCond .ne 9, 3) := by decide +kernel
theorem dX10_readOne_43 : decode cX10_readOne 43 = .ok (.iload_n 1, 1) := by decide +kernel
theorem dX10_readOne_44 : decode cX10_readOne 44 = .ok (.iconst 2, 1) := by decide +kernel
theorem dX10_readOne_45 : decode cX10_readOne 45 = .ok (.iadd, 1) := by decide +kernel
theorem dX10_readOne_46 : decode cX10_readOne 46 = .ok (.goto 24, 3) := by decide +kernel
theorem dX10_readOne_49 : decode cX10_readOne 49 = .ok (.aload_n 0, 1) := by decide +kernel
theorem dX10_readOne_50 : decode cX10_readOne 50 = .ok (.iload_n 1, 1) := by decide +kernel
theorem dX10_readOne_51 : decode cX10_readOne 51 = .ok (.iconst 3, 1) := by decide +kernel
theorem dX10_readOne_52 : decode cX10_readOne 52 = .ok (.iadd, 1) := by decide +kernel
theorem dX10_readOne_53 : decode cX10_readOne 53 = .ok (.bipush 9, 2) := by decide +kernel
theorem dX10_readOne_55 : decode cX10_readOne 55 = .ok (.invokevirtual 113, 3) := by decide +kernel
theorem dX10_readOne_58 : decode cX10_readOne 58 = .ok (.ifCond .ne 9, 3) := by decide +kernel
theorem dX10_readOne_61 : decode cX10_readOne 61 = .ok (.iload_n 1, 1) := by decide +kernel
theorem dX10_readOne_62 : decode cX10_readOne 62 = .ok (.iconst 3, 1) := by decide +kernel
theorem dX10_readOne_63 : decode cX10_readOne 63 = .ok (.iadd, 1) := by decide +kernel
theorem dX10_readOne_64 : decode cX10_readOne 64 = .ok (.goto 6, 3) := by decide +kernel
theorem dX10_readOne_67 : decode cX10_readOne 67 = .ok (.iload_n 1, 1) := by decide +kernel
theorem dX10_readOne_68 : decode cX10_readOne 68 = .ok (.iconst 4, 1) := by decide +kernel
theorem dX10_readOne_69 : decode cX10_readOne 69 = .ok (.iadd, 1) := by decide +kernel
theorem dX10_readOne_70 : decode cX10_readOne 70 = .ok (.ireturn, 1) := by decide +kernel
theorem dX10_readSide_0 : decode cX10_readSide 0 = .ok (.aload_n 0, 1) := by decide +kernel
theorem dX10_readSide_1 : decode cX10_readSide 1 = .ok (.iconst 0, 1) := by decide +kernel
theorem dX10_readSide_2 : decode cX10_readSide 2 = .ok (.putfield 117, 3) := by decide +kernel
theorem dX10_readSide_5 : decode cX10_readSide 5 = .ok (.aload_n 0, 1) := by decide +kernel
theorem dX10_readSide_6 : decode cX10_readSide 6 = .ok (.iconst 0, 1) := by decide +kernel
theorem dX10_readSide_7 : decode cX10_readSide 7 = .ok (.putfield 120, 3) := by decide +kernel
theorem dX10_readSide_10 : decode cX10_readSide 10 = .ok (.iload_n 1, 1) := by decide +kernel
theorem dX10_readSide_11 : decode cX10_readSide 11 = .ok (.istore_n 2, 1) := by decide +kernel
theorem dX10_readSide_12 : decode cX10_readSide 12 = .ok (.aload_n 0, 1) := by decide +kernel
theorem dX10_readSide_13 : decode cX10_readSide 13 = .ok (.iload_n 2, 1) := by decide +kernel
theorem dX10_readSide_14 : decode cX10_readSide 14 = .ok (.invokevirtual 124, 3) := by decide +kernel
theorem dX10_readSide_17 : decode cX10_readSide 17 = .ok (.istore_n 3, 1) := by decide +kernel
theorem dX10_readSide_18 : decode cX10_readSide 18 = .ok (.iload_n 3, 1) := by decide +kernel
theorem dX10_readSide_19 : decode cX10_readSide 19 = .ok (.iload_n 2, 1) := by decide +kernel
theorem dX10_readSide_20 : decode cX10_readSide 20 = .ok (.iconst 4, 1) := by decide +kernel
theorem dX10_readSide_21 : decode cX10_readSide 21 = .ok (.iadd, 1) := by decide +kernel
theorem dX10_readSide_22 : decode cX10_readSide 22 = .ok (.if_icmp .eq 5, 3) := by decide +kernel
theorem dX10_readSide_25 : decode cX10_readSide 25 = .ok (.iload_n 3, 1) := by decide +kernel
theorem dX10_readSide_26 : decode cX10_readSide 26 = .ok (.ireturn, 1) := by decide +kernel
theorem dX10_readSide_27 : decode cX10_readSide 27 = .ok (.aload_n 0, 1) := by decide +kernel
theorem dX10_readSide_28 : decode cX10_readSide 28 = .ok (.dup, 1) := by decide +kernel
theorem dX10_readSide_29 : decode cX10_readSide 29 = .ok (.getfield 117, 3) := by decide +kernel
theorem dX10_readSide_32 : decode cX10_readSide 32 = .ok (.iconst 1, 1) := by decide +kernel
theorem dX10_readSide_33 : decode cX10_readSide 33 = .ok (.iadd, 1) := by decide +kernel
theorem dX10_readSide_34 : decode cX10_readSide 34 = .ok (.putfield 117, 3) := by decide +kernel
theorem dX10_readSide_37 : decode cX10_readSide 37 = .ok (.iload_n 3, 1) := by decide +kernel
theorem dX10_readSide_38 : decode cX10_readSide 38 = .ok (.istore_n 2, 1) := by decide +kernel
theorem dX10_readSide_39 : decode cX10_readSide 39 = .ok (.aload_n 0, 1) := by decide +kernel
theorem dX10_readSide_40 : decode cX10_readSide 40 = .ok (.iconst 1, 1) := by decide +kernel
theorem dX10_readSide_41 : decode cX10_readSide 41 = .ok (.putfield 120, 3) := by decide +kernel
theorem dX10_readSide_44 : decode cX10_readSide 44 = .ok (.aload_n 0, 1) := by decide +kernel
theorem dX10_readSide_45 : decode cX10_readSide 45 = .ok (.getfield 117, 3) := by decide +kernel
theorem dX10_readSide_48 : decode cX10_readSide 48 = .ok (.iconst 4, 1) := by decide +kernel
theorem dX10_readSide_49 : decode cX10_readSide 49 = .ok (.if_icmp .eq 13, 3) := by decide +kernel
theorem dX10_readSide_52 : decode cX10_readSide 52 = .ok (.aload_n 0, 1) := by decide +kernel
theorem dX10_readSide_53 : decode cX10_readSide 53 = .ok (.iload_n 2, 1) := by decide +kernel
theorem dX10_readSide_54 : decode cX10_readSide 54 = .ok (.invokevirtual 106, 3) := by decide +kernel
theorem dX10_readSide_57 : decode cX10_readSide 57 = .ok (.bipush 44, 2) := by decide +kernel
theorem dX10_readSide_59 : decode cX10_readSide 59 = .ok (.if_icmp .eq 5, 3) := by decide +kernel
theorem dX10_readSide_62 : decode cX10_readSide 62 = .ok (.iload_n 2, 1) := by decide +kernel
theorem dX10_readSide_63 : decode cX10_readSide 63 = .ok (.ireturn, 1) := by decide +kernel
theorem dX10_readSide_64 : decode cX10_readSide 64 = .ok (.aload_n 0, 1) := by decide +kernel
theorem dX10_readSide_65 : decode cX10_readSide 65 = .ok (.iconst 0, 1) := by decide +kernel
theorem dX10_readSide_66 : decode cX10_readSide 66 = .ok (.putfield 120, 3) := by decide +kernel
theorem dX10_readSide_69 : decode cX10_readSide 69 = .ok (.iinc 2 1, 3) := by decide +kernel
theorem dX10_readSide_72 : decode cX10_readSide 72 = .ok (.goto (-60), 3) := by decide +kernel
theorem dX10_read_0 : decode cX10_read 0 = .ok (.aload_n 0, 1) := by decide +kernel
theorem dX10_read_1 : decode cX10_read 1 = .ok (.iconst 0, 1) := by decide +kernel
theorem dX10_read_2 : decode cX10_read 2 = .ok (.invokevirtual 127, 3) := by decide +kernel
theorem dX10_read_5 : decode cX10_read 5 = .ok (.istore_n 1, 1) := by decide +kernel
theorem dX10_read_6 : decode cX10_read 6 = .ok (.aload_n 0, 1) := by decide +kernel
theorem dX10_read_7 : decode cX10_read 7 = .ok (.aload_n 0, 1) := by decide +kernel
theorem dX10_read_8 : decode cX10_read 8 = .ok (.getfield 117, 3) := by decide +kernel
theorem dX10_read_11 : decode cX10_read 11 = .ok (.putfield 130, 3) := by decide +kernel
theorem dX10_read_14 : decode cX10_read 14 = .ok (.aload_n 0, 1) := by decide +kernel
theorem dX10_read_15 : decode cX10_read 15 = .ok (.getfield 120, 3) := by decide +kernel
theorem dX10_read_18 : decode cX10_read 18 = .ok (.ifCond .eq 13, 3) := by decide +kernel
theorem dX10_read_21 : decode cX10_read 21 = .ok (.aload_n 0, 1) := by decide +kernel
theorem dX10_read_22 : decode cX10_read 22 = .ok (.iload_n 1, 1) := by decide +kernel
theorem dX10_read_23 : decode cX10_read 23 = .ok (.invokevirtual 106, 3) := by decide +kernel
theorem dX10_read_26 : decode cX10_read 26 = .ok (.bipush 59, 2) := by decide +kernel
theorem dX10_read_28 : decode cX10_read 28 = .ok (.if_icmp .eq 10, 3) := by decide +kernel
theorem dX10_read_31 : decode cX10_read 31 = .ok (.aload_n 0, 1) := by decide +kernel
theorem dX10_read_32 : decode cX10_read 32 = .ok (.iconst 0, 1) := by decide +kernel
theorem dX10_read_33 : decode cX10_read 33 = .ok (.putfield 120, 3) := by decide +kernel
theorem dX10_read_36 : decode cX10_read 36 = .ok (.iload_n 1, 1) := by decide +kernel
theorem dX10_read_37 : decode cX10_read 37 = .ok (.ireturn, 1) := by decide +kernel
theorem dX10_read_38 : decode cX10_read 38 = .ok (.aload_n 0, 1) := by decide +kernel
theorem dX10_read_39 : decode cX10_read 39 = .ok (.iload_n 1, 1) := by decide +kernel
theorem dX10_read_40 : decode cX10_read 40 = .ok (.iconst 1, 1) := by decide +kernel
theorem dX10_read_41 : decode cX10_read 41 = .ok (.iadd, 1) := by decide +kernel
theorem dX10_read_42 : decode cX10_read 42 = .ok (.invokevirtual 127, 3) := by decide +kernel
theorem dX10_read_45 : decode cX10_read 45 = .ok (.istore_n 2, 1) := by decide +kernel
theorem dX10_read_46 : decode cX10_read 46 = .ok (.aload_n 0, 1) := by decide +kernel
theorem dX10_read_47 : decode cX10_read 47 = .ok (.aload_n 0, 1) := by decide +kernel
theorem dX10_read_48 : decode cX10_read 48 = .ok (.getfield 120, 3) := by decide +kernel
theorem dX10_read_51 : decode cX10_read 51 = .ok (.ifCond .eq 15, 3) := by decide +kernel
theorem dX10_read_54 : decode cX10_read 54 = .ok (.iload_n 2, 1) := by decide +kernel
theorem dX10_read_55 : decode cX10_read 55 = .ok (.aload_n 0, 1) := by decide +kernel
theorem dX10_read_56 : decode cX10_read 56 = .ok (.getfield 102, 3) := by decide +kernel
theorem dX10_read_59 : decode cX10_read 59 = .ok (.if_icmp .ne 7, 3) := by decide +kernel
theorem dX10_read_62 : decode cX10_read 62 = .ok (.iconst 1, 1) := by decide +kernel
theorem dX10_read_63 : decode cX10_read 63 = .ok (.goto 4, 3) := by decide +kernel
theorem dX10_read_66 : decode cX10_read 66 = .ok (.iconst 0, 1) := by decide +kernel
theorem dX10_read_67 : decode cX10_read 67 = .ok (.putfield 120, 3) := by decide +kernel
