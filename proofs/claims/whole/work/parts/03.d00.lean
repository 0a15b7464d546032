theorem dX0_init_0 : decode cX0_init 0 = .ok (.aload_n 0, 1) := by decide +kernel
theorem dX0_init_1 : decode cX0_init 1 = .ok (.invokespecial 3, 3) := by decide +kernel
theorem dX0_init_4 : decode cX0_init 4 = .ok (.aload_n 0, 1) := by decide +kernel
theorem dX0_init_5 : decode cX0_init 5 = .ok (.bipush 8, 2) := by decide +kernel
theorem dX0_init_7 : decode cX0_init 7 = .ok (.anewarray 9, 3) := by decide +kernel
theorem dX0_init_10 : decode cX0_init 10 = .ok (.putfield 11, 3) := by decide +kernel
theorem dX0_init_13 : decode cX0_init 13 = .ok (.aload_n 0, 1) := by decide +kernel
theorem dX0_init_14 : decode cX0_init 14 = .ok (.new 17, 3) := by decide +kernel
theorem dX0_init_17 : decode cX0_init 17 = .ok (.dup, 1) := by decide +kernel
theorem dX0_init_18 : decode cX0_init 18 = .ok (.invokespecial 19, 3) := by decide +kernel
theorem dX0_init_21 : decode cX0_init 21 = .ok (.putfield 20, 3) := by decide +kernel
theorem dX0_init_24 : decode cX0_init 24 = .ok (.iconst 0, 1) := by decide +kernel
theorem dX0_init_25 : decode cX0_init 25 = .ok (.istore_n 1, 1) := by decide +kernel
theorem dX0_init_26 : decode cX0_init 26 = .ok (.iload_n 1, 1) := by decide +kernel
theorem dX0_init_27 : decode cX0_init 27 = .ok (.bipush 8, 2) := by decide +kernel
theorem dX0_init_29 : decode cX0_init 29 = .ok (.if_icmp .ge 23, 3) := by decide +kernel
theorem dX0_init_32 : decode cX0_init 32 = .ok (.aload_n 0, 1) := by decide +kernel
theorem dX0_init_33 : decode cX0_init 33 = .ok (.getfield 11, 3) := by decide +kernel
theorem dX0_init_36 : decode cX0_init 36 = .ok (.iload_n 1, 1) := by decide +kernel
theorem dX0_init_37 : decode cX0_init 37 = .ok (.new 9, 3) := by decide +kernel
theorem dX0_init_40 : decode cX0_init 40 = .ok (.dup, 1) := by decide +kernel
theorem dX0_init_41 : decode cX0_init 41 = .ok (.iload_n 1, 1) := by decide +kernel
theorem dX0_init_42 : decode cX0_init 42 = .ok (.invokespecial 24, 3) := by decide +kernel
theorem dX0_init_45 : decode cX0_init 45 = .ok (.aastore, 1) := by decide +kernel
theorem dX0_init_46 : decode cX0_init 46 = .ok (.iinc 1 1, 3) := by decide +kernel
theorem dX0_init_49 : decode cX0_init 49 = .ok (.goto (-23), 3) := by decide +kernel
theorem dX0_init_52 : decode cX0_init 52 = .ok (.return_, 1) := by decide +kernel
theorem dX0_isEmpty_0 : decode cX0_isEmpty 0 = .ok (.aload_n 0, 1) := by decide +kernel
theorem dX0_isEmpty_1 : decode cX0_isEmpty 1 = .ok (.getfield 27, 3) := by decide +kernel
theorem dX0_isEmpty_4 : decode cX0_isEmpty 4 = .ok (.ifCond .ne 7, 3) := by decide +kernel
theorem dX0_isEmpty_7 : decode cX0_isEmpty 7 = .ok (.iconst 1, 1) := by decide +kernel
theorem dX0_isEmpty_8 : decode cX0_isEmpty 8 = .ok (.goto 4, 3) := by decide +kernel
theorem dX0_isEmpty_11 : decode cX0_isEmpty 11 = .ok (.iconst 0, 1) := by decide +kernel
theorem dX0_isEmpty_12 : decode cX0_isEmpty 12 = .ok (.ireturn, 1) := by decide +kernel
theorem dX0_has_0 : decode cX0_has 0 = .ok (.iload_n 1, 1) := by decide +kernel
theorem dX0_has_1 : decode cX0_has 1 = .ok (.ifCond .lt 15, 3) := by decide +kernel
theorem dX0_has_4 : decode cX0_has 4 = .ok (.iload_n 1, 1) := by decide +kernel
theorem dX0_has_5 : decode cX0_has 5 = .ok (.aload_n 0, 1) := by decide +kernel
theorem dX0_has_6 : decode cX0_has 6 = .ok (.getfield 27, 3) := by decide +kernel
theorem dX0_has_9 : decode cX0_has 9 = .ok (.if_icmp .ge 7, 3) := by decide +kernel
theorem dX0_has_12 : decode cX0_has 12 = .ok (.iconst 1, 1) := by decide +kernel
theorem dX0_has_13 : decode cX0_has 13 = .ok (.goto 4, 3) := by decide +kernel
theorem dX0_has_16 : decode cX0_has 16 = .ok (.iconst 0, 1) := by decide +kernel
theorem dX0_has_17 : decode cX0_has 17 = .ok (.ireturn, 1) := by decide +kernel
theorem dX0_readFrom_0 : decode cX0_readFrom 0 = .ok (.iconst 0, 1) := by decide +kernel
theorem dX0_readFrom_1 : decode cX0_readFrom 1 = .ok (.istore_n 2, 1) := by decide +kernel
theorem dX0_readFrom_2 : decode cX0_readFrom 2 = .ok (.aload_n 0, 1) := by decide +kernel
theorem dX0_readFrom_3 : decode cX0_readFrom 3 = .ok (.iconst 0, 1) := by decide +kernel
theorem dX0_readFrom_4 : decode cX0_readFrom 4 = .ok (.putfield 27, 3) := by decide +kernel
theorem dX0_readFrom_7 : decode cX0_readFrom 7 = .ok (.iconst 0, 1) := by decide +kernel
theorem dX0_readFrom_8 : decode cX0_readFrom 8 = .ok (.istore_n 3, 1) := by decide +kernel
theorem dX0_readFrom_9 : decode cX0_readFrom 9 = .ok (.iload_n 3, 1) := by decide +kernel
theorem dX0_readFrom_10 : decode cX0_readFrom 10 = .ok (.aload_n 1, 1) := by decide +kernel
theorem dX0_readFrom_11 : decode cX0_readFrom 11 = .ok (.getfield 31, 3) := by decide +kernel
theorem dX0_readFrom_14 : decode cX0_readFrom 14 = .ok (.if_icmp .ge 129, 3) := by decide +kernel
theorem dX0_readFrom_17 : decode cX0_readFrom 17 = .ok (.aload_n 0, 1) := by decide +kernel
theorem dX0_readFrom_18 : decode cX0_readFrom 18 = .ok (.getfield 27, 3) := by decide +kernel
theorem dX0_readFrom_21 : decode cX0_readFrom 21 = .ok (.bipush 8, 2) := by decide +kernel
theorem dX0_readFrom_23 : decode cX0_readFrom 23 = .ok (.if_icmp .ge 120, 3) := by decide +kernel
theorem dX0_readFrom_26 : decode cX0_readFrom 26 = .ok (.aload_n 0, 1) := by decide +kernel
theorem dX0_readFrom_27 : decode cX0_readFrom 27 = .ok (.getfield 11, 3) := by decide +kernel
theorem dX0_readFrom_30 : decode cX0_readFrom 30 = .ok (.aload_n 0, 1) := by decide +kernel
theorem dX0_readFrom_31 : decode cX0_readFrom 31 = .ok (.getfield 27, 3) := by decide +kernel
theorem dX0_readFrom_34 : decode cX0_readFrom 34 = .ok (.aaload, 1) := by decide +kernel
theorem dX0_readFrom_35 : decode cX0_readFrom 35 = .ok (.astore 4, 2) := by decide +kernel
theorem dX0_readFrom_37 : decode cX0_readFrom 37 = .ok (.aload 4, 2) := by decide +kernel
theorem dX0_readFrom_39 : decode cX0_readFrom 39 = .ok (.aload_n 1, 1) := by decide +kernel
theorem dX0_readFrom_40 : decode cX0_readFrom 40 = .ok (.iload_n 3, 1) := by decide +kernel
theorem dX0_readFrom_41 : decode cX0_readFrom 41 = .ok (.invokevirtual 36, 3) := by decide +kernel
theorem dX0_readFrom_44 : decode cX0_readFrom 44 = .ok (.invokestatic 40, 3) := by decide +kernel
theorem dX0_readFrom_47 : decode cX0_readFrom 47 = .ok (.putfield 46, 3) := by decide +kernel
theorem dX0_readFrom_50 : decode cX0_readFrom 50 = .ok (.aload 4, 2) := by decide +kernel
theorem dX0_readFrom_52 : decode cX0_readFrom 52 = .ok (.iload_n 2, 1) := by decide +kernel
theorem dX0_readFrom_53 : decode cX0_readFrom 53 = .ok (.putfield 50, 3) := by decide +kernel
theorem dX0_readFrom_56 : decode cX0_readFrom 56 = .ok (.aload 4, 2) := by decide +kernel
theorem dX0_readFrom_58 : decode cX0_readFrom 58 = .ok (.aload_n 1, 1) := by decide +kernel
theorem dX0_readFrom_59 : decode cX0_readFrom 59 = .ok (.iload_n 3, 1) := by decide +kernel
theorem dX0_readFrom_60 : decode cX0_readFrom 60 = .ok (.iconst 1, 1) := by decide +kernel
theorem dX0_readFrom_61 : decode cX0_readFrom 61 = .ok (.iadd, 1) := by decide +kernel
theorem dX0_readFrom_62 : decode cX0_readFrom 62 = .ok (.invokevirtual 53, 3) := by decide +kernel
theorem dX0_readFrom_65 : decode cX0_readFrom 65 = .ok (.putfield 56, 3) := by decide +kernel
theorem dX0_readFrom_68 : decode cX0_readFrom 68 = .ok (.aload 4, 2) := by decide +kernel
theorem dX0_readFrom_70 : decode cX0_readFrom 70 = .ok (.aload_n 1, 1) := by decide +kernel
theorem dX0_readFrom_71 : decode cX0_readFrom 71 = .ok (.iload_n 3, 1) := by decide +kernel
theorem dX0_readFrom_72 : decode cX0_readFrom 72 = .ok (.iconst 2, 1) := by decide +kernel
theorem dX0_readFrom_73 : decode cX0_readFrom 73 = .ok (.iadd, 1) := by decide +kernel
theorem dX0_readFrom_74 : decode cX0_readFrom 74 = .ok (.invokevirtual 53, 3) := by decide +kernel
theorem dX0_readFrom_77 : decode cX0_readFrom 77 = .ok (.putfield 59, 3) := by decide +kernel
theorem dX0_readFrom_80 : decode cX0_readFrom 80 = .ok (.aload 4, 2) := by decide +kernel
theorem dX0_readFrom_82 : decode cX0_readFrom 82 = .ok (.aload_n 1, 1) := by decide +kernel
theorem dX0_readFrom_83 : decode cX0_readFrom 83 = .ok (.iload_n 3, 1) := by decide +kernel
theorem dX0_readFrom_84 : decode cX0_readFrom 84 = .ok (.iconst 3, 1) := by decide +kernel
theorem dX0_readFrom_85 : decode cX0_readFrom 85 = .ok (.iadd, 1) := by decide +kernel
theorem dX0_readFrom_86 : decode cX0_readFrom 86 = .ok (.invokevirtual 53, 3) := by decide +kernel
theorem dX0_readFrom_89 : decode cX0_readFrom 89 = .ok (.putfield 62, 3) := by decide +kernel
theorem dX0_readFrom_92 : decode cX0_readFrom 92 = .ok (.aload 4, 2) := by decide +kernel
theorem dX0_readFrom_94 : decode cX0_readFrom 94 = .ok (.iconst (-1), 1) := by decide +kernel
theorem dX0_readFrom_95 : decode cX0_readFrom 95 = .ok (.putfield 65, 3) := by decide +kernel
theorem dX0_readFrom_98 : decode cX0_readFrom 98 = .ok (.aload 4, 2) := by decide +kernel
theorem dX0_readFrom_100 : decode cX0_readFrom 100 = .ok (.invokevirtual 68, 3) := by decide +kernel
theorem dX0_readFrom_103 : decode cX0_readFrom 103 = .ok (.aload_n 0, 1) := by decide +kernel
theorem dX0_readFrom_104 : decode cX0_readFrom 104 = .ok (.dup, 1) := by decide +kernel
theorem dX0_readFrom_105 : decode cX0_readFrom 105 = .ok (.getfield 27, 3) := by decide +kernel
theorem dX0_readFrom_108 : decode cX0_readFrom 108 = .ok (.iconst 1, 1) := by decide +kernel
theorem dX0_readFrom_109 : decode cX0_readFrom 109 = .ok (.iadd, 1) := by decide +kernel
theorem dX0_readFrom_110 : decode cX0_readFrom 110 = .ok (.putfield 27, 3) := by decide +kernel
theorem dX0_readFrom_113 : decode cX0_readFrom 113 = .ok (.iload_n 2, 1) := by decide +kernel
theorem dX0_readFrom_114 : decode cX0_readFrom 114 = .ok (.ifCond .ne 11, 3) := by decide +kernel
theorem dX0_readFrom_117 : decode cX0_readFrom 117 = .ok (.aload_n 0, 1) := by decide +kernel
theorem dX0_readFrom_118 : decode cX0_readFrom 118 = .ok (.aload_n 0, 1) := by decide +kernel
theorem dX0_readFrom_119 : decode cX0_readFrom 119 = .ok (.getfield 27, 3) := by decide +kernel
theorem dX0_readFrom_122 : decode cX0_readFrom 122 = .ok (.putfield 71, 3) := by decide +kernel
theorem dX0_readFrom_125 : decode cX0_readFrom 125 = .ok (.aload_n 1, 1) := by decide +kernel
theorem dX0_readFrom_126 : decode cX0_readFrom 126 = .ok (.iload_n 3, 1) := by decide +kernel
theorem dX0_readFrom_127 : decode cX0_readFrom 127 = .ok (.iconst 4, 1) := by decide +kernel
theorem dX0_readFrom_128 : decode cX0_readFrom 128 = .ok (.iadd, 1) := by decide +kernel
theorem dX0_readFrom_129 : decode cX0_readFrom 129 = .ok (.invokevirtual 74, 3) := by decide +kernel
theorem dX0_readFrom_132 : decode cX0_readFrom 132 = .ok (.ifCond .eq 5, 3) := by decide +kernel
theorem dX0_readFrom_135 : decode cX0_readFrom 135 = .ok (.iconst 1, 1) := by decide +kernel
theorem dX0_readFrom_136 : decode cX0_readFrom 136 = .ok (.istore_n 2, 1) := by decide +kernel
theorem dX0_readFrom_137 : decode cX0_readFrom 137 = .ok (.iinc 3 5, 3) := by decide +kernel
theorem dX0_readFrom_140 : decode cX0_readFrom 140 = .ok (.goto (-131), 3) := by decide +kernel
theorem dX0_readFrom_143 : decode cX0_readFrom 143 = .ok (.aload_n 0, 1) := by decide +kernel
theorem dX0_readFrom_144 : decode cX0_readFrom 144 = .ok (.invokevirtual 78, 3) := by decide +kernel
theorem dX0_readFrom_147 : decode cX0_readFrom 147 = .ok (.return_, 1) := by decide +kernel
theorem dX0_clearHistory_0 : decode cX0_clearHistory 0 = .ok (.aload_n 0, 1) := by decide +kernel
theorem dX0_clearHistory_1 : decode cX0_clearHistory 1 = .ok (.bipush 9, 2) := by decide +kernel
theorem dX0_clearHistory_3 : decode cX0_clearHistory 3 = .ok (.putfield 81, 3) := by decide +kernel
theorem dX0_clearHistory_6 : decode cX0_clearHistory 6 = .ok (.aload_n 0, 1) := by decide +kernel
theorem dX0_clearHistory_7 : decode cX0_clearHistory 7 = .ok (.iconst 0, 1) := by decide +kernel
theorem dX0_clearHistory_8 : decode cX0_clearHistory 8 = .ok (.putfield 84, 3) := by decide +kernel
theorem dX0_clearHistory_11 : decode cX0_clearHistory 11 = .ok (.aload_n 0, 1) := by decide +kernel
theorem dX0_clearHistory_12 : decode cX0_clearHistory 12 = .ok (.iconst 0, 1) := by decide +kernel
theorem dX0_clearHistory_13 : decode cX0_clearHistory 13 = .ok (.putfield 87, 3) := by decide +kernel
theorem dX0_clearHistory_16 : decode cX0_clearHistory 16 = .ok (.aload_n 0, 1) := by decide +kernel
theorem dX0_clearHistory_17 : decode cX0_clearHistory 17 = .ok (.iconst 0, 1) := by decide +kernel
theorem dX0_clearHistory_18 : decode cX0_clearHistory 18 = .ok (.putfield 90, 3) := by decide +kernel
theorem dX0_clearHistory_21 : decode cX0_clearHistory 21 = .ok (.aload_n 0, 1) := by decide +kernel
theorem dX0_clearHistory_22 : decode cX0_clearHistory 22 = .ok (.iconst 0, 1) := by decide +kernel
theorem dX0_clearHistory_23 : decode cX0_clearHistory 23 = .ok (.putfield 93, 3) := by decide +kernel
theorem dX0_clearHistory_26 : decode cX0_clearHistory 26 = .ok (.aload_n 0, 1) := by decide +kernel
theorem dX0_clearHistory_27 : decode cX0_clearHistory 27 = .ok (.iconst 0, 1) := by decide +kernel
theorem dX0_clearHistory_28 : decode cX0_clearHistory 28 = .ok (.putfield 96, 3) := by decide +kernel
theorem dX0_clearHistory_31 : decode cX0_clearHistory 31 = .ok (.aload_n 0, 1) := by decide +kernel
theorem dX0_clearHistory_32 : decode cX0_clearHistory 32 = .ok (.getfield 20, 3) := by decide +kernel
theorem dX0_clearHistory_35 : decode cX0_clearHistory 35 = .ok (.invokevirtual 99, 3) := by decide +kernel
theorem dX0_clearHistory_38 : decode cX0_clearHistory 38 = .ok (.return_, 1) := by decide +kernel
theorem dX0_copyFrom_0 : decode cX0_copyFrom 0 = .ok (.iconst 0, 1) := by decide +kernel
theorem dX0_copyFrom_1 : decode cX0_copyFrom 1 = .ok (.istore_n 2, 1) := by decide +kernel
theorem dX0_copyFrom_2 : decode cX0_copyFrom 2 = .ok (.iload_n 2, 1) := by decide +kernel
theorem dX0_copyFrom_3 : decode cX0_copyFrom 3 = .ok (.bipush 8, 2) := by decide +kernel
theorem dX0_copyFrom_5 : decode cX0_copyFrom 5 = .ok (.if_icmp .ge 24, 3) := by decide +kernel
theorem dX0_copyFrom_8 : decode cX0_copyFrom 8 = .ok (.aload_n 0, 1) := by decide +kernel
theorem dX0_copyFrom_9 : decode cX0_copyFrom 9 = .ok (.getfield 11, 3) := by decide +kernel
theorem dX0_copyFrom_12 : decode cX0_copyFrom 12 = .ok (.iload_n 2, 1) := by decide +kernel
theorem dX0_copyFrom_13 : decode cX0_copyFrom 13 = .ok (.aaload, 1) := by decide +kernel
theorem dX0_copyFrom_14 : decode cX0_copyFrom 14 = .ok (.aload_n 1, 1) := by decide +kernel
theorem dX0_copyFrom_15 : decode cX0_copyFrom 15 = .ok (.getfield 11, 3) := by decide +kernel
theorem dX0_copyFrom_18 : decode cX0_copyFrom 18 = .ok (.iload_n 2, 1) := by decide +kernel
theorem dX0_copyFrom_19 : decode cX0_copyFrom 19 = .ok (.aaload, 1) := by decide +kernel
theorem dX0_copyFrom_20 : decode cX0_copyFrom 20 = .ok (.invokevirtual 102, 3) := by decide +kernel
theorem dX0_copyFrom_23 : decode cX0_copyFrom 23 = .ok (.iinc 2 1, 3) := by decide +kernel
theorem dX0_copyFrom_26 : decode cX0_copyFrom 26 = .ok (.goto (-24), 3) := by decide +kernel
theorem dX0_copyFrom_29 : decode cX0_copyFrom 29 = .ok (.aload_n 0, 1) := by decide +kernel
theorem dX0_copyFrom_30 : decode cX0_copyFrom 30 = .ok (.getfield 20, 3) := by decide +kernel
theorem dX0_copyFrom_33 : decode cX0_copyFrom 33 = .ok (.aload_n 1, 1) := by decide +kernel
theorem dX0_copyFrom_34 : decode cX0_copyFrom 34 = .ok (.getfield 20, 3) := by decide +kernel
theorem dX0_copyFrom_37 : decode cX0_copyFrom 37 = .ok (.invokevirtual 106, 3) := by decide +kernel
theorem dX0_copyFrom_40 : decode cX0_copyFrom 40 = .ok (.aload_n 0, 1) := by decide +kernel
theorem dX0_copyFrom_41 : decode cX0_copyFrom 41 = .ok (.aload_n 1, 1) := by decide +kernel
theorem dX0_copyFrom_42 : decode cX0_copyFrom 42 = .ok (.getfield 71, 3) := by decide +kernel
theorem dX0_copyFrom_45 : decode cX0_copyFrom 45 = .ok (.putfield 71, 3) := by decide +kernel
theorem dX0_copyFrom_48 : decode cX0_copyFrom 48 = .ok (.aload_n 0, 1) := by decide +kernel
theorem dX0_copyFrom_49 : decode cX0_copyFrom 49 = .ok (.aload_n 1, 1) := by decide +kernel
theorem dX0_copyFrom_50 : decode cX0_copyFrom 50 = .ok (.getfield 27, 3) := by decide +kernel
theorem dX0_copyFrom_53 : decode cX0_copyFrom 53 = .ok (.putfield 27, 3) := by decide +kernel
theorem dX0_copyFrom_56 : decode cX0_copyFrom 56 = .ok (.aload_n 0, 1) := by decide +kernel
theorem dX0_copyFrom_57 : decode cX0_copyFrom 57 = .ok (.aload_n 1, 1) := by decide +kernel
theorem dX0_copyFrom_58 : decode cX0_copyFrom 58 = .ok (.getfield 81, 3) := by decide +kernel
theorem dX0_copyFrom_61 : decode cX0_copyFrom 61 = .ok (.putfield 81, 3) := by decide +kernel
theorem dX0_copyFrom_64 : decode cX0_copyFrom 64 = .ok (.aload_n 0, 1) := by decide +kernel
theorem dX0_copyFrom_65 : decode cX0_copyFrom 65 = .ok (.aload_n 1, 1) := by decide +kernel
theorem dX0_copyFrom_66 : decode cX0_copyFrom 66 = .ok (.getfield 84, 3) := by decide +kernel
theorem dX0_copyFrom_69 : decode cX0_copyFrom 69 = .ok (.putfield 84, 3) := by decide +kernel
theorem dX0_copyFrom_72 : decode cX0_copyFrom 72 = .ok (.aload_n 0, 1) := by decide +kernel
theorem dX0_copyFrom_73 : decode cX0_copyFrom 73 = .ok (.aload_n 1, 1) := by decide +kernel
theorem dX0_copyFrom_74 : decode cX0_copyFrom 74 = .ok (.getfield 87, 3) := by decide +kernel
theorem dX0_copyFrom_77 : decode cX0_copyFrom 77 = .ok (.putfield 87, 3) := by decide +kernel
theorem dX0_copyFrom_80 : decode cX0_copyFrom 80 = .ok (.aload_n 0, 1) := by decide +kernel
theorem dX0_copyFrom_81 : decode cX0_copyFrom 81 = .ok (.aload_n 1, 1) := by decide +kernel
theorem dX0_copyFrom_82 : decode cX0_copyFrom 82 = .ok (.getfield 90, 3) := by decide +kernel
theorem dX0_copyFrom_85 : decode cX0_copyFrom 85 = .ok (.putfield 90, 3) := by decide +kernel
theorem dX0_copyFrom_88 : decode cX0_copyFrom 88 = .ok (.aload_n 0, 1) := by decide +kernel
theorem dX0_copyFrom_89 : decode cX0_copyFrom 89 = .ok (.aload_n 1, 1) := by decide +kernel
theorem dX0_copyFrom_90 : decode cX0_copyFrom 90 = .ok (.getfield 93, 3) := by decide +kernel
theorem dX0_copyFrom_93 : decode cX0_copyFrom 93 = .ok (.putfield 93, 3) := by decide +kernel
theorem dX0_copyFrom_96 : decode cX0_copyFrom 96 = .ok (.aload_n 0, 1) := by decide +kernel
theorem dX0_copyFrom_97 : decode cX0_copyFrom 97 = .ok (.aload_n 1, 1) := by decide +kernel
theorem dX0_copyFrom_98 : decode cX0_copyFrom 98 = .ok (.getfield 96, 3) := by decide +kernel
theorem dX0_copyFrom_101 : decode cX0_copyFrom 101 = .ok (.putfield 96, 3) := by decide +kernel
theorem dX0_copyFrom_104 : decode cX0_copyFrom 104 = .ok (.return_, 1) := by decide +kernel
theorem dX0_clearShown_0 : decode cX0_clearShown 0 = .ok (.iconst 0, 1) := by decide +kernel
theorem dX0_clearShown_1 : decode cX0_clearShown 1 = .ok (.istore_n 1, 1) := by decide +kernel
theorem dX0_clearShown_2 : decode cX0_clearShown 2 = .ok (.iload_n 1, 1) := by decide +kernel
theorem dX0_clearShown_3 : decode cX0_clearShown 3 = .ok (.aload_n 0, 1) := by decide +kernel
theorem dX0_clearShown_4 : decode cX0_clearShown 4 = .ok (.getfield 27, 3) := by decide +kernel
theorem dX0_clearShown_7 : decode cX0_clearShown 7 = .ok (.if_icmp .ge 18, 3) := by decide +kernel
theorem dX0_clearShown_10 : decode cX0_clearShown 10 = .ok (.aload_n 0, 1) := by decide +kernel
theorem dX0_clearShown_11 : decode cX0_clearShown 11 = .ok (.getfield 11, 3) := by decide +kernel
theorem dX0_clearShown_14 : decode cX0_clearShown 14 = .ok (.iload_n 1, 1) := by decide +kernel
theorem dX0_clearShown_15 : decode cX0_clearShown 15 = .ok (.aaload, 1) := by decide +kernel
theorem dX0_clearShown_16 : decode cX0_clearShown 16 = .ok (.invokevirtual 68, 3) := by decide +kernel
theorem dX0_clearShown_19 : decode cX0_clearShown 19 = .ok (.iinc 1 1, 3) := by decide +kernel
theorem dX0_clearShown_22 : decode cX0_clearShown 22 = .ok (.goto (-20), 3) := by decide +kernel
theorem dX0_clearShown_25 : decode cX0_clearShown 25 = .ok (.return_, 1) := by decide +kernel
theorem dX0_startDay_0 : decode cX0_startDay 0 = .ok (.iconst 0, 1) := by decide +kernel
theorem dX0_startDay_1 : decode cX0_startDay 1 = .ok (.istore_n 1, 1) := by decide +kernel
theorem dX0_startDay_2 : decode cX0_startDay 2 = .ok (.iload_n 1, 1) := by decide +kernel
theorem dX0_startDay_3 : decode cX0_startDay 3 = .ok (.aload_n 0, 1) := by decide +kernel
theorem dX0_startDay_4 : decode cX0_startDay 4 = .ok (.getfield 27, 3) := by decide +kernel
theorem dX0_startDay_7 : decode cX0_startDay 7 = .ok (.if_icmp .ge 19, 3) := by decide +kernel
theorem dX0_startDay_10 : decode cX0_startDay 10 = .ok (.aload_n 0, 1) := by decide +kernel
theorem dX0_startDay_11 : decode cX0_startDay 11 = .ok (.getfield 11, 3) := by decide +kernel
theorem dX0_startDay_14 : decode cX0_startDay 14 = .ok (.iload_n 1, 1) := by decide +kernel
theorem dX0_startDay_15 : decode cX0_startDay 15 = .ok (.aaload, 1) := by decide +kernel
theorem dX0_startDay_16 : decode cX0_startDay 16 = .ok (.iconst 0, 1) := by decide +kernel
theorem dX0_startDay_17 : decode cX0_startDay 17 = .ok (.putfield 109, 3) := by decide +kernel
theorem dX0_startDay_20 : decode cX0_startDay 20 = .ok (.iinc 1 1, 3) := by decide +kernel
theorem dX0_startDay_23 : decode cX0_startDay 23 = .ok (.goto (-21), 3) := by decide +kernel
theorem dX0_startDay_26 : decode cX0_startDay 26 = .ok (.return_, 1) := by decide +kernel
theorem dX0_present_0 : decode cX0_present 0 = .ok (.aload_n 1, 1) := by decide +kernel
theorem dX0_present_1 : decode cX0_present 1 = .ok (.aload_n 2, 1) := by decide +kernel
theorem dX0_present_2 : decode cX0_present 2 = .ok (.aload_n 0, 1) := by decide +kernel
theorem dX0_present_3 : decode cX0_present 3 = .ok (.getfield 81, 3) := by decide +kernel
theorem dX0_present_6 : decode cX0_present 6 = .ok (.invokevirtual 112, 3) := by decide +kernel
theorem dX0_present_9 : decode cX0_present 9 = .ok (.ifCond .eq 20, 3) := by decide +kernel
theorem dX0_present_12 : decode cX0_present 12 = .ok (.aload_n 1, 1) := by decide +kernel
theorem dX0_present_13 : decode cX0_present 13 = .ok (.aload_n 2, 1) := by decide +kernel
theorem dX0_present_14 : decode cX0_present 14 = .ok (.invokevirtual 116, 3) := by decide +kernel
theorem dX0_present_17 : decode cX0_present 17 = .ok (.aload_n 0, 1) := by decide +kernel
theorem dX0_present_18 : decode cX0_present 18 = .ok (.dup, 1) := by decide +kernel
theorem dX0_present_19 : decode cX0_present 19 = .ok (.getfield 93, 3) := by decide +kernel
theorem dX0_present_22 : decode cX0_present 22 = .ok (.iconst 1, 1) := by decide +kernel
theorem dX0_present_23 : decode cX0_present 23 = .ok (.iadd, 1) := by decide +kernel
theorem dX0_present_24 : decode cX0_present 24 = .ok (.putfield 93, 3) := by decide +kernel
theorem dX0_present_27 : decode cX0_present 27 = .ok (.iconst 1, 1) := by decide +kernel
theorem dX0_present_28 : decode cX0_present 28 = .ok (.ireturn, 1) := by decide +kernel
theorem dX0_present_29 : decode cX0_present 29 = .ok (.aload_n 1, 1) := by decide +kernel
theorem dX0_present_30 : decode cX0_present 30 = .ok (.aload_n 2, 1) := by decide +kernel
theorem dX0_present_31 : decode cX0_present 31 = .ok (.invokevirtual 119, 3) := by decide +kernel
theorem dX0_present_34 : decode cX0_present 34 = .ok (.aload_n 0, 1) := by decide +kernel
theorem dX0_present_35 : decode cX0_present 35 = .ok (.dup, 1) := by decide +kernel
theorem dX0_present_36 : decode cX0_present 36 = .ok (.getfield 96, 3) := by decide +kernel
theorem dX0_present_39 : decode cX0_present 39 = .ok (.iconst 1, 1) := by decide +kernel
theorem dX0_present_40 : decode cX0_present 40 = .ok (.iadd, 1) := by decide +kernel
theorem dX0_present_41 : decode cX0_present 41 = .ok (.putfield 96, 3) := by decide +kernel
theorem dX0_present_44 : decode cX0_present 44 = .ok (.iconst 0, 1) := by decide +kernel
theorem dX0_present_45 : decode cX0_present 45 = .ok (.ireturn, 1) := by decide +kernel
theorem dX0_putInOrder_0 : decode cX0_putInOrder 0 = .ok (.iconst 0, 1) := by decide +kernel
theorem dX0_putInOrder_1 : decode cX0_putInOrder 1 = .ok (.istore_n 3, 1) := by decide +kernel
theorem dX0_putInOrder_2 : decode cX0_putInOrder 2 = .ok (.iload_n 3, 1) := by decide +kernel
theorem dX0_putInOrder_3 : decode cX0_putInOrder 3 = .ok (.aload_n 0, 1) := by decide +kernel
theorem dX0_putInOrder_4 : decode cX0_putInOrder 4 = .ok (.getfield 27, 3) := by decide +kernel
theorem dX0_putInOrder_7 : decode cX0_putInOrder 7 = .ok (.if_icmp .ge 74, 3) := by decide +kernel
theorem dX0_putInOrder_10 : decode cX0_putInOrder 10 = .ok (.iload_n 3, 1) := by decide +kernel
theorem dX0_putInOrder_11 : decode cX0_putInOrder 11 = .ok (.aload_n 1, 1) := by decide +kernel
theorem dX0_putInOrder_12 : decode cX0_putInOrder 12 = .ok (.arraylength, 1) := by decide +kernel
theorem dX0_putInOrder_13 : decode cX0_putInOrder 13 = .ok (.if_icmp .ge 68, 3) := by decide +kernel
theorem dX0_putInOrder_16 : decode cX0_putInOrder 16 = .ok (.iload_n 3, 1) := by decide +kernel
theorem dX0_putInOrder_17 : decode cX0_putInOrder 17 = .ok (.istore 4, 2) := by decide +kernel
theorem dX0_putInOrder_19 : decode cX0_putInOrder 19 = .ok (.iload_n 2, 1) := by decide +kernel
theorem dX0_putInOrder_20 : decode cX0_putInOrder 20 = .ok (.ifCond .eq 50, 3) := by decide +kernel
theorem dX0_putInOrder_23 : decode cX0_putInOrder 23 = .ok (.iload 4, 2) := by decide +kernel
theorem dX0_putInOrder_25 : decode cX0_putInOrder 25 = .ok (.ifCond .le 45, 3) := by decide +kernel
theorem dX0_putInOrder_28 : decode cX0_putInOrder 28 = .ok (.aload_n 0, 1) := by decide +kernel
theorem dX0_putInOrder_29 : decode cX0_putInOrder 29 = .ok (.getfield 11, 3) := by decide +kernel
theorem dX0_putInOrder_32 : decode cX0_putInOrder 32 = .ok (.iload_n 3, 1) := by decide +kernel
theorem dX0_putInOrder_33 : decode cX0_putInOrder 33 = .ok (.aaload, 1) := by decide +kernel
theorem dX0_putInOrder_34 : decode cX0_putInOrder 34 = .ok (.invokevirtual 122, 3) := by decide +kernel
theorem dX0_putInOrder_37 : decode cX0_putInOrder 37 = .ok (.aload_n 0, 1) := by decide +kernel
theorem dX0_putInOrder_38 : decode cX0_putInOrder 38 = .ok (.getfield 11, 3) := by decide +kernel
theorem dX0_putInOrder_41 : decode cX0_putInOrder 41 = .ok (.aload_n 1, 1) := by decide +kernel
theorem dX0_putInOrder_42 : decode cX0_putInOrder 42 = .ok (.iload 4, 2) := by decide +kernel
theorem dX0_putInOrder_44 : decode cX0_putInOrder 44 = .ok (.iconst 1, 1) := by decide +kernel
theorem dX0_putInOrder_45 : decode cX0_putInOrder 45 = .ok (.isub, 1) := by decide +kernel
theorem dX0_putInOrder_46 : decode cX0_putInOrder 46 = .ok (.iaload, 1) := by decide +kernel
theorem dX0_putInOrder_47 : decode cX0_putInOrder 47 = .ok (.aaload, 1) := by decide +kernel
theorem dX0_putInOrder_48 : decode cX0_putInOrder 48 = .ok (.invokevirtual 122, 3) := by decide +kernel
theorem dX0_putInOrder_51 : decode cX0_putInOrder 51 = .ok (.if_icmp .le 19, 3) := by decide +kernel
theorem dX0_putInOrder_54 : decode cX0_putInOrder 54 = .ok (.aload_n 1, 1) := by decide +kernel
theorem dX0_putInOrder_55 : decode cX0_putInOrder 55 = .ok (.iload 4, 2) := by decide +kernel
theorem dX0_putInOrder_57 : decode cX0_putInOrder 57 = .ok (.aload_n 1, 1) := by decide +kernel
theorem dX0_putInOrder_58 : decode cX0_putInOrder 58 = .ok (.iload 4, 2) := by decide +kernel
theorem dX0_putInOrder_60 : decode cX0_putInOrder 60 = .ok (.iconst 1, 1) := by decide +kernel
theorem dX0_putInOrder_61 : decode cX0_putInOrder 61 = .ok (.isub, 1) := by decide +kernel
theorem dX0_putInOrder_62 : decode cX0_putInOrder 62 = .ok (.iaload, 1) := by decide +kernel
theorem dX0_putInOrder_63 : decode cX0_putInOrder 63 = .ok (.iastore, 1) := by decide +kernel
theorem dX0_putInOrder_64 : decode cX0_putInOrder 64 = .ok (.iinc 4 (-1), 3) := by decide +kernel
theorem dX0_putInOrder_67 : decode cX0_putInOrder 67 = .ok (.goto (-48), 3) := by decide +kernel
theorem dX0_putInOrder_70 : decode cX0_putInOrder 70 = .ok (.aload_n 1, 1) := by decide +kernel
theorem dX0_putInOrder_71 : decode cX0_putInOrder 71 = .ok (.iload 4, 2) := by decide +kernel
theorem dX0_putInOrder_73 : decode cX0_putInOrder 73 = .ok (.iload_n 3, 1) := by decide +kernel
theorem dX0_putInOrder_74 : decode cX0_putInOrder 74 = .ok (.iastore, 1) := by decide +kernel
theorem dX0_putInOrder_75 : decode cX0_putInOrder 75 = .ok (.iinc 3 1, 3) := by decide +kernel
theorem dX0_putInOrder_78 : decode cX0_putInOrder 78 = .ok (.goto (-76), 3) := by decide +kernel
theorem dX0_putInOrder_81 : decode cX0_putInOrder 81 = .ok (.return_, 1) := by decide +kernel
theorem dX0_tellOf_0 : decode cX0_tellOf 0 = .ok (.iload_n 2, 1) := by decide +kernel
theorem dX0_tellOf_1 : decode cX0_tellOf 1 = .ok (.tableswitch 183 0 14 #[75, 83, 88, 93, 98, 103, 127, 132, 138, 143, 148, 154, 159, 164, 177], 75) := by decide +kernel
theorem dX0_tellOf_76 : decode cX0_tellOf 76 = .ok (.aload_n 1, 1) := by decide +kernel
theorem dX0_tellOf_77 : decode cX0_tellOf 77 = .ok (.getfield 46, 3) := by decide +kernel
theorem dX0_tellOf_80 : decode cX0_tellOf 80 = .ok (.getfield 126, 3) := by decide +kernel
theorem dX0_tellOf_83 : decode cX0_tellOf 83 = .ok (.ireturn, 1) := by decide +kernel
theorem dX0_tellOf_84 : decode cX0_tellOf 84 = .ok (.aload_n 1, 1) := by decide +kernel
theorem dX0_tellOf_85 : decode cX0_tellOf 85 = .ok (.getfield 56, 3) := by decide +kernel
theorem dX0_tellOf_88 : decode cX0_tellOf 88 = .ok (.ireturn, 1) := by decide +kernel
theorem dX0_tellOf_89 : decode cX0_tellOf 89 = .ok (.aload_n 1, 1) := by decide +kernel
theorem dX0_tellOf_90 : decode cX0_tellOf 90 = .ok (.getfield 59, 3) := by decide +kernel
theorem dX0_tellOf_93 : decode cX0_tellOf 93 = .ok (.ireturn, 1) := by decide +kernel
theorem dX0_tellOf_94 : decode cX0_tellOf 94 = .ok (.aload_n 1, 1) := by decide +kernel
theorem dX0_tellOf_95 : decode cX0_tellOf 95 = .ok (.getfield 62, 3) := by decide +kernel
theorem dX0_tellOf_98 : decode cX0_tellOf 98 = .ok (.ireturn, 1) := by decide +kernel
theorem dX0_tellOf_99 : decode cX0_tellOf 99 = .ok (.aload_n 1, 1) := by decide +kernel
theorem dX0_tellOf_100 : decode cX0_tellOf 100 = .ok (.getfield 50, 3) := by decide +kernel
theorem dX0_tellOf_103 : decode cX0_tellOf 103 = .ok (.ireturn, 1) := by decide +kernel
theorem dX0_tellOf_104 : decode cX0_tellOf 104 = .ok (.aload_n 1, 1) := by decide +kernel
theorem dX0_tellOf_105 : decode cX0_tellOf 105 = .ok (.invokevirtual 129, 3) := by decide +kernel
theorem dX0_tellOf_108 : decode cX0_tellOf 108 = .ok (.ifCond .eq 7, 3) := by decide +kernel
theorem dX0_tellOf_111 : decode cX0_tellOf 111 = .ok (.iconst 1, 1) := by decide +kernel
theorem dX0_tellOf_112 : decode cX0_tellOf 112 = .ok (.goto 15, 3) := by decide +kernel
theorem dX0_tellOf_115 : decode cX0_tellOf 115 = .ok (.aload_n 1, 1) := by decide +kernel
theorem dX0_tellOf_116 : decode cX0_tellOf 116 = .ok (.invokevirtual 133, 3) := by decide +kernel
theorem dX0_tellOf_119 : decode cX0_tellOf 119 = .ok (.ifCond .eq 7, 3) := by decide +kernel
theorem dX0_tellOf_122 : decode cX0_tellOf 122 = .ok (.iconst 2, 1) := by decide +kernel
theorem dX0_tellOf_123 : decode cX0_tellOf 123 = .ok (.goto 4, 3) := by decide +kernel
theorem dX0_tellOf_126 : decode cX0_tellOf 126 = .ok (.iconst 0, 1) := by decide +kernel
theorem dX0_tellOf_127 : decode cX0_tellOf 127 = .ok (.ireturn, 1) := by decide +kernel
theorem dX0_tellOf_128 : decode cX0_tellOf 128 = .ok (.aload_n 1, 1) := by decide +kernel
theorem dX0_tellOf_129 : decode cX0_tellOf 129 = .ok (.getfield 65, 3) := by decide +kernel
theorem dX0_tellOf_132 : decode cX0_tellOf 132 = .ok (.ireturn, 1) := by decide +kernel
theorem dX0_tellOf_133 : decode cX0_tellOf 133 = .ok (.aload_n 0, 1) := by decide +kernel
theorem dX0_tellOf_134 : decode cX0_tellOf 134 = .ok (.aload_n 1, 1) := by decide +kernel
theorem dX0_tellOf_135 : decode cX0_tellOf 135 = .ok (.invokevirtual 136, 3) := by decide +kernel
theorem dX0_tellOf_138 : decode cX0_tellOf 138 = .ok (.ireturn, 1) := by decide +kernel
theorem dX0_tellOf_139 : decode cX0_tellOf 139 = .ok (.aload_n 1, 1) := by decide +kernel
theorem dX0_tellOf_140 : decode cX0_tellOf 140 = .ok (.getfield 140, 3) := by decide +kernel
theorem dX0_tellOf_143 : decode cX0_tellOf 143 = .ok (.ireturn, 1) := by decide +kernel
theorem dX0_tellOf_144 : decode cX0_tellOf 144 = .ok (.aload_n 1, 1) := by decide +kernel
theorem dX0_tellOf_145 : decode cX0_tellOf 145 = .ok (.getfield 143, 3) := by decide +kernel
theorem dX0_tellOf_148 : decode cX0_tellOf 148 = .ok (.ireturn, 1) := by decide +kernel
theorem dX0_tellOf_149 : decode cX0_tellOf 149 = .ok (.aload_n 0, 1) := by decide +kernel
theorem dX0_tellOf_150 : decode cX0_tellOf 150 = .ok (.aload_n 1, 1) := by decide +kernel
theorem dX0_tellOf_151 : decode cX0_tellOf 151 = .ok (.invokevirtual 146, 3) := by decide +kernel
theorem dX0_tellOf_154 : decode cX0_tellOf 154 = .ok (.ireturn, 1) := by decide +kernel
theorem dX0_tellOf_155 : decode cX0_tellOf 155 = .ok (.aload_n 1, 1) := by decide +kernel
theorem dX0_tellOf_156 : decode cX0_tellOf 156 = .ok (.getfield 149, 3) := by decide +kernel
theorem dX0_tellOf_159 : decode cX0_tellOf 159 = .ok (.ireturn, 1) := by decide +kernel
theorem dX0_tellOf_160 : decode cX0_tellOf 160 = .ok (.aload_n 1, 1) := by decide +kernel
theorem dX0_tellOf_161 : decode cX0_tellOf 161 = .ok (.getfield 109, 3) := by decide +kernel
theorem dX0_tellOf_164 : decode cX0_tellOf 164 = .ok (.ireturn, 1) := by decide +kernel
theorem dX0_tellOf_165 : decode cX0_tellOf 165 = .ok (.aload_n 0, 1) := by decide +kernel
theorem dX0_tellOf_166 : decode cX0_tellOf 166 = .ok (.getfield 20, 3) := by decide +kernel
theorem dX0_tellOf_169 : decode cX0_tellOf 169 = .ok (.aload_n 1, 1) := by decide +kernel
theorem dX0_tellOf_170 : decode cX0_tellOf 170 = .ok (.aload_n 0, 1) := by decide +kernel
theorem dX0_tellOf_171 : decode cX0_tellOf 171 = .ok (.getfield 11, 3) := by decide +kernel
theorem dX0_tellOf_174 : decode cX0_tellOf 174 = .ok (.invokevirtual 152, 3) := by decide +kernel
theorem dX0_tellOf_177 : decode cX0_tellOf 177 = .ok (.ireturn, 1) := by decide +kernel
theorem dX0_tellOf_178 : decode cX0_tellOf 178 = .ok (.aload_n 0, 1) := by decide +kernel
theorem dX0_tellOf_179 : decode cX0_tellOf 179 = .ok (.aload_n 1, 1) := by decide +kernel
theorem dX0_tellOf_180 : decode cX0_tellOf 180 = .ok (.invokevirtual 156, 3) := by decide +kernel
theorem dX0_tellOf_183 : decode cX0_tellOf 183 = .ok (.ireturn, 1) := by decide +kernel
theorem dX0_tellOf_184 : decode cX0_tellOf 184 = .ok (.bipush (-102), 2) := by decide +kernel
theorem dX0_tellOf_186 : decode cX0_tellOf 186 = .ok (.ireturn, 1) := by decide +kernel
theorem dX0_tell_0 : decode cX0_tell 0 = .ok (.iload_n 1, 1) := by decide +kernel
theorem dX0_tell_1 : decode cX0_tell 1 = .ok (.tableswitch 140 0 12 #[67, 72, 82, 87, 92, 97, 102, 107, 112, 117, 122, 127, 132], 67) := by decide +kernel
theorem dX0_tell_68 : decode cX0_tell 68 = .ok (.aload_n 0, 1) := by decide +kernel
theorem dX0_tell_69 : decode cX0_tell 69 = .ok (.getfield 71, 3) := by decide +kernel
theorem dX0_tell_72 : decode cX0_tell 72 = .ok (.ireturn, 1) := by decide +kernel
theorem dX0_tell_73 : decode cX0_tell 73 = .ok (.aload_n 0, 1) := by decide +kernel
theorem dX0_tell_74 : decode cX0_tell 74 = .ok (.getfield 27, 3) := by decide +kernel
theorem dX0_tell_77 : decode cX0_tell 77 = .ok (.aload_n 0, 1) := by decide +kernel
theorem dX0_tell_78 : decode cX0_tell 78 = .ok (.getfield 71, 3) := by decide +kernel
theorem dX0_tell_81 : decode cX0_tell 81 = .ok (.isub, 1) := by decide +kernel
theorem dX0_tell_82 : decode cX0_tell 82 = .ok (.ireturn, 1) := by decide +kernel
theorem dX0_tell_83 : decode cX0_tell 83 = .ok (.aload_n 0, 1) := by decide +kernel
theorem dX0_tell_84 : decode cX0_tell 84 = .ok (.invokevirtual 159, 3) := by decide +kernel
theorem dX0_tell_87 : decode cX0_tell 87 = .ok (.ireturn, 1) := by decide +kernel
theorem dX0_tell_88 : decode cX0_tell 88 = .ok (.aload_n 0, 1) := by decide +kernel
theorem dX0_tell_89 : decode cX0_tell 89 = .ok (.invokevirtual 162, 3) := by decide +kernel
theorem dX0_tell_92 : decode cX0_tell 92 = .ok (.ireturn, 1) := by decide +kernel
theorem dX0_tell_93 : decode cX0_tell 93 = .ok (.aload_n 0, 1) := by decide +kernel
theorem dX0_tell_94 : decode cX0_tell 94 = .ok (.invokevirtual 165, 3) := by decide +kernel
theorem dX0_tell_97 : decode cX0_tell 97 = .ok (.ireturn, 1) := by decide +kernel
theorem dX0_tell_98 : decode cX0_tell 98 = .ok (.aload_n 0, 1) := by decide +kernel
theorem dX0_tell_99 : decode cX0_tell 99 = .ok (.invokevirtual 168, 3) := by decide +kernel
theorem dX0_tell_102 : decode cX0_tell 102 = .ok (.ireturn, 1) := by decide +kernel
theorem dX0_tell_103 : decode cX0_tell 103 = .ok (.aload_n 0, 1) := by decide +kernel
theorem dX0_tell_104 : decode cX0_tell 104 = .ok (.getfield 93, 3) := by decide +kernel
theorem dX0_tell_107 : decode cX0_tell 107 = .ok (.ireturn, 1) := by decide +kernel
theorem dX0_tell_108 : decode cX0_tell 108 = .ok (.aload_n 0, 1) := by decide +kernel
theorem dX0_tell_109 : decode cX0_tell 109 = .ok (.getfield 96, 3) := by decide +kernel
theorem dX0_tell_112 : decode cX0_tell 112 = .ok (.ireturn, 1) := by decide +kernel
theorem dX0_tell_113 : decode cX0_tell 113 = .ok (.aload_n 0, 1) := by decide +kernel
theorem dX0_tell_114 : decode cX0_tell 114 = .ok (.getfield 81, 3) := by decide +kernel
theorem dX0_tell_117 : decode cX0_tell 117 = .ok (.ireturn, 1) := by decide +kernel
theorem dX0_tell_118 : decode cX0_tell 118 = .ok (.aload_n 0, 1) := by decide +kernel
theorem dX0_tell_119 : decode cX0_tell 119 = .ok (.getfield 84, 3) := by decide +kernel
theorem dX0_tell_122 : decode cX0_tell 122 = .ok (.ireturn, 1) := by decide +kernel
theorem dX0_tell_123 : decode cX0_tell 123 = .ok (.aload_n 0, 1) := by decide +kernel
theorem dX0_tell_124 : decode cX0_tell 124 = .ok (.getfield 87, 3) := by decide +kernel
theorem dX0_tell_127 : decode cX0_tell 127 = .ok (.ireturn, 1) := by decide +kernel
theorem dX0_tell_128 : decode cX0_tell 128 = .ok (.aload_n 0, 1) := by decide +kernel
theorem dX0_tell_129 : decode cX0_tell 129 = .ok (.getfield 90, 3) := by decide +kernel
theorem dX0_tell_132 : decode cX0_tell 132 = .ok (.ireturn, 1) := by decide +kernel
theorem dX0_tell_133 : decode cX0_tell 133 = .ok (.aload_n 0, 1) := by decide +kernel
theorem dX0_tell_134 : decode cX0_tell 134 = .ok (.getfield 20, 3) := by decide +kernel
theorem dX0_tell_137 : decode cX0_tell 137 = .ok (.getfield 171, 3) := by decide +kernel
theorem dX0_tell_140 : decode cX0_tell 140 = .ok (.ireturn, 1) := by decide +kernel
theorem dX0_tell_141 : decode cX0_tell 141 = .ok (.bipush (-102), 2) := by decide +kernel
theorem dX0_tell_143 : decode cX0_tell 143 = .ok (.ireturn, 1) := by decide +kernel
theorem dX0_likedBy_0 : decode cX0_likedBy 0 = .ok (.iconst 0, 1) := by decide +kernel
theorem dX0_likedBy_1 : decode cX0_likedBy 1 = .ok (.istore_n 2, 1) := by decide +kernel
theorem dX0_likedBy_2 : decode cX0_likedBy 2 = .ok (.iconst 0, 1) := by decide +kernel
theorem dX0_likedBy_3 : decode cX0_likedBy 3 = .ok (.istore_n 3, 1) := by decide +kernel
theorem dX0_likedBy_4 : decode cX0_likedBy 4 = .ok (.iload_n 3, 1) := by decide +kernel
theorem dX0_likedBy_5 : decode cX0_likedBy 5 = .ok (.aload_n 0, 1) := by decide +kernel
theorem dX0_likedBy_6 : decode cX0_likedBy 6 = .ok (.getfield 27, 3) := by decide +kernel
theorem dX0_likedBy_9 : decode cX0_likedBy 9 = .ok (.if_icmp .ge 34, 3) := by decide +kernel
theorem dX0_likedBy_12 : decode cX0_likedBy 12 = .ok (.aload_n 1, 1) := by decide +kernel
theorem dX0_likedBy_13 : decode cX0_likedBy 13 = .ok (.aload_n 0, 1) := by decide +kernel
theorem dX0_likedBy_14 : decode cX0_likedBy 14 = .ok (.getfield 11, 3) := by decide +kernel
theorem dX0_likedBy_17 : decode cX0_likedBy 17 = .ok (.iload_n 3, 1) := by decide +kernel
theorem dX0_likedBy_18 : decode cX0_likedBy 18 = .ok (.aaload, 1) := by decide +kernel
theorem dX0_likedBy_19 : decode cX0_likedBy 19 = .ok (.invokevirtual 172, 3) := by decide +kernel
theorem dX0_likedBy_22 : decode cX0_likedBy 22 = .ok (.ifCond .eq 15, 3) := by decide +kernel
theorem dX0_likedBy_25 : decode cX0_likedBy 25 = .ok (.iload_n 2, 1) := by decide +kernel
theorem dX0_likedBy_26 : decode cX0_likedBy 26 = .ok (.aload_n 0, 1) := by decide +kernel
theorem dX0_likedBy_27 : decode cX0_likedBy 27 = .ok (.getfield 11, 3) := by decide +kernel
theorem dX0_likedBy_30 : decode cX0_likedBy 30 = .ok (.iload_n 3, 1) := by decide +kernel
theorem dX0_likedBy_31 : decode cX0_likedBy 31 = .ok (.aaload, 1) := by decide +kernel
theorem dX0_likedBy_32 : decode cX0_likedBy 32 = .ok (.getfield 176, 3) := by decide +kernel
theorem dX0_likedBy_35 : decode cX0_likedBy 35 = .ok (.ior, 1) := by decide +kernel
theorem dX0_likedBy_36 : decode cX0_likedBy 36 = .ok (.istore_n 2, 1) := by decide +kernel
theorem dX0_likedBy_37 : decode cX0_likedBy 37 = .ok (.iinc 3 1, 3) := by decide +kernel
theorem dX0_likedBy_40 : decode cX0_likedBy 40 = .ok (.goto (-36), 3) := by decide +kernel
theorem dX0_likedBy_43 : decode cX0_likedBy 43 = .ok (.iload_n 2, 1) := by decide +kernel
theorem dX0_likedBy_44 : decode cX0_likedBy 44 = .ok (.ireturn, 1) := by decide +kernel
theorem dX0_matchesOf_0 : decode cX0_matchesOf 0 = .ok (.iconst 0, 1) := by decide +kernel
theorem dX0_matchesOf_1 : decode cX0_matchesOf 1 = .ok (.istore_n 2, 1) := by decide +kernel
theorem dX0_matchesOf_2 : decode cX0_matchesOf 2 = .ok (.iconst 0, 1) := by decide +kernel
theorem dX0_matchesOf_3 : decode cX0_matchesOf 3 = .ok (.istore_n 3, 1) := by decide +kernel
theorem dX0_matchesOf_4 : decode cX0_matchesOf 4 = .ok (.iload_n 3, 1) := by decide +kernel
theorem dX0_matchesOf_5 : decode cX0_matchesOf 5 = .ok (.aload_n 0, 1) := by decide +kernel
theorem dX0_matchesOf_6 : decode cX0_matchesOf 6 = .ok (.getfield 27, 3) := by decide +kernel
theorem dX0_matchesOf_9 : decode cX0_matchesOf 9 = .ok (.if_icmp .ge 34, 3) := by decide +kernel
theorem dX0_matchesOf_12 : decode cX0_matchesOf 12 = .ok (.aload_n 1, 1) := by decide +kernel
theorem dX0_matchesOf_13 : decode cX0_matchesOf 13 = .ok (.aload_n 0, 1) := by decide +kernel
theorem dX0_matchesOf_14 : decode cX0_matchesOf 14 = .ok (.getfield 11, 3) := by decide +kernel
theorem dX0_matchesOf_17 : decode cX0_matchesOf 17 = .ok (.iload_n 3, 1) := by decide +kernel
theorem dX0_matchesOf_18 : decode cX0_matchesOf 18 = .ok (.aaload, 1) := by decide +kernel
theorem dX0_matchesOf_19 : decode cX0_matchesOf 19 = .ok (.invokevirtual 179, 3) := by decide +kernel
theorem dX0_matchesOf_22 : decode cX0_matchesOf 22 = .ok (.ifCond .eq 15, 3) := by decide +kernel
theorem dX0_matchesOf_25 : decode cX0_matchesOf 25 = .ok (.iload_n 2, 1) := by decide +kernel
theorem dX0_matchesOf_26 : decode cX0_matchesOf 26 = .ok (.aload_n 0, 1) := by decide +kernel
theorem dX0_matchesOf_27 : decode cX0_matchesOf 27 = .ok (.getfield 11, 3) := by decide +kernel
theorem dX0_matchesOf_30 : decode cX0_matchesOf 30 = .ok (.iload_n 3, 1) := by decide +kernel
theorem dX0_matchesOf_31 : decode cX0_matchesOf 31 = .ok (.aaload, 1) := by decide +kernel
theorem dX0_matchesOf_32 : decode cX0_matchesOf 32 = .ok (.getfield 176, 3) := by decide +kernel
theorem dX0_matchesOf_35 : decode cX0_matchesOf 35 = .ok (.ior, 1) := by decide +kernel
theorem dX0_matchesOf_36 : decode cX0_matchesOf 36 = .ok (.istore_n 2, 1) := by decide +kernel
theorem dX0_matchesOf_37 : decode cX0_matchesOf 37 = .ok (.iinc 3 1, 3) := by decide +kernel
theorem dX0_matchesOf_40 : decode cX0_matchesOf 40 = .ok (.goto (-36), 3) := by decide +kernel
theorem dX0_matchesOf_43 : decode cX0_matchesOf 43 = .ok (.iload_n 2, 1) := by decide +kernel
theorem dX0_matchesOf_44 : decode cX0_matchesOf 44 = .ok (.ireturn, 1) := by decide +kernel
theorem dX0_freeOnes_0 : decode cX0_freeOnes 0 = .ok (.iconst 0, 1) := by decide +kernel
theorem dX0_freeOnes_1 : decode cX0_freeOnes 1 = .ok (.istore_n 1, 1) := by decide +kernel
theorem dX0_freeOnes_2 : decode cX0_freeOnes 2 = .ok (.iconst 0, 1) := by decide +kernel
theorem dX0_freeOnes_3 : decode cX0_freeOnes 3 = .ok (.istore_n 2, 1) := by decide +kernel
theorem dX0_freeOnes_4 : decode cX0_freeOnes 4 = .ok (.iload_n 2, 1) := by decide +kernel
theorem dX0_freeOnes_5 : decode cX0_freeOnes 5 = .ok (.aload_n 0, 1) := by decide +kernel
theorem dX0_freeOnes_6 : decode cX0_freeOnes 6 = .ok (.getfield 27, 3) := by decide +kernel
theorem dX0_freeOnes_9 : decode cX0_freeOnes 9 = .ok (.if_icmp .ge 29, 3) := by decide +kernel
theorem dX0_freeOnes_12 : decode cX0_freeOnes 12 = .ok (.iload_n 1, 1) := by decide +kernel
theorem dX0_freeOnes_13 : decode cX0_freeOnes 13 = .ok (.aload_n 0, 1) := by decide +kernel
theorem dX0_freeOnes_14 : decode cX0_freeOnes 14 = .ok (.getfield 11, 3) := by decide +kernel
theorem dX0_freeOnes_17 : decode cX0_freeOnes 17 = .ok (.iload_n 2, 1) := by decide +kernel
theorem dX0_freeOnes_18 : decode cX0_freeOnes 18 = .ok (.aaload, 1) := by decide +kernel
theorem dX0_freeOnes_19 : decode cX0_freeOnes 19 = .ok (.invokevirtual 182, 3) := by decide +kernel
theorem dX0_freeOnes_22 : decode cX0_freeOnes 22 = .ok (.ifCond .eq 7, 3) := by decide +kernel
theorem dX0_freeOnes_25 : decode cX0_freeOnes 25 = .ok (.iconst 1, 1) := by decide +kernel
theorem dX0_freeOnes_26 : decode cX0_freeOnes 26 = .ok (.goto 4, 3) := by decide +kernel
theorem dX0_freeOnes_29 : decode cX0_freeOnes 29 = .ok (.iconst 0, 1) := by decide +kernel
theorem dX0_freeOnes_30 : decode cX0_freeOnes 30 = .ok (.iadd, 1) := by decide +kernel
theorem dX0_freeOnes_31 : decode cX0_freeOnes 31 = .ok (.istore_n 1, 1) := by decide +kernel
theorem dX0_freeOnes_32 : decode cX0_freeOnes 32 = .ok (.iinc 2 1, 3) := by decide +kernel
theorem dX0_freeOnes_35 : decode cX0_freeOnes 35 = .ok (.goto (-31), 3) := by decide +kernel
theorem dX0_freeOnes_38 : decode cX0_freeOnes 38 = .ok (.iload_n 1, 1) := by decide +kernel
theorem dX0_freeOnes_39 : decode cX0_freeOnes 39 = .ok (.ireturn, 1) := by decide +kernel
theorem dX0_goneOnes_0 : decode cX0_goneOnes 0 = .ok (.iconst 0, 1) := by decide +kernel
theorem dX0_goneOnes_1 : decode cX0_goneOnes 1 = .ok (.istore_n 1, 1) := by decide +kernel
theorem dX0_goneOnes_2 : decode cX0_goneOnes 2 = .ok (.iconst 0, 1) := by decide +kernel
theorem dX0_goneOnes_3 : decode cX0_goneOnes 3 = .ok (.istore_n 2, 1) := by decide +kernel
theorem dX0_goneOnes_4 : decode cX0_goneOnes 4 = .ok (.iload_n 2, 1) := by decide +kernel
theorem dX0_goneOnes_5 : decode cX0_goneOnes 5 = .ok (.aload_n 0, 1) := by decide +kernel
theorem dX0_goneOnes_6 : decode cX0_goneOnes 6 = .ok (.getfield 27, 3) := by decide +kernel
theorem dX0_goneOnes_9 : decode cX0_goneOnes 9 = .ok (.if_icmp .ge 29, 3) := by decide +kernel
theorem dX0_goneOnes_12 : decode cX0_goneOnes 12 = .ok (.iload_n 1, 1) := by decide +kernel
theorem dX0_goneOnes_13 : decode cX0_goneOnes 13 = .ok (.aload_n 0, 1) := by decide +kernel
theorem dX0_goneOnes_14 : decode cX0_goneOnes 14 = .ok (.getfield 11, 3) := by decide +kernel
theorem dX0_goneOnes_17 : decode cX0_goneOnes 17 = .ok (.iload_n 2, 1) := by decide +kernel
theorem dX0_goneOnes_18 : decode cX0_goneOnes 18 = .ok (.aaload, 1) := by decide +kernel
theorem dX0_goneOnes_19 : decode cX0_goneOnes 19 = .ok (.invokevirtual 133, 3) := by decide +kernel
theorem dX0_goneOnes_22 : decode cX0_goneOnes 22 = .ok (.ifCond .eq 7, 3) := by decide +kernel
theorem dX0_goneOnes_25 : decode cX0_goneOnes 25 = .ok (.iconst 1, 1) := by decide +kernel
theorem dX0_goneOnes_26 : decode cX0_goneOnes 26 = .ok (.goto 4, 3) := by decide +kernel
theorem dX0_goneOnes_29 : decode cX0_goneOnes 29 = .ok (.iconst 0, 1) := by decide +kernel
theorem dX0_goneOnes_30 : decode cX0_goneOnes 30 = .ok (.iadd, 1) := by decide +kernel
theorem dX0_goneOnes_31 : decode cX0_goneOnes 31 = .ok (.istore_n 1, 1) := by decide +kernel
theorem dX0_goneOnes_32 : decode cX0_goneOnes 32 = .ok (.iinc 2 1, 3) := by decide +kernel
theorem dX0_goneOnes_35 : decode cX0_goneOnes 35 = .ok (.goto (-31), 3) := by decide +kernel
theorem dX0_goneOnes_38 : decode cX0_goneOnes 38 = .ok (.iload_n 1, 1) := by decide +kernel
theorem dX0_goneOnes_39 : decode cX0_goneOnes 39 = .ok (.ireturn, 1) := by decide +kernel
theorem dX0_couples_0 : decode cX0_couples 0 = .ok (.iconst 0, 1) := by decide +kernel
theorem dX0_couples_1 : decode cX0_couples 1 = .ok (.istore_n 1, 1) := by decide +kernel
theorem dX0_couples_2 : decode cX0_couples 2 = .ok (.iconst 0, 1) := by decide +kernel
theorem dX0_couples_3 : decode cX0_couples 3 = .ok (.istore_n 2, 1) := by decide +kernel
theorem dX0_couples_4 : decode cX0_couples 4 = .ok (.iload_n 2, 1) := by decide +kernel
theorem dX0_couples_5 : decode cX0_couples 5 = .ok (.aload_n 0, 1) := by decide +kernel
theorem dX0_couples_6 : decode cX0_couples 6 = .ok (.getfield 71, 3) := by decide +kernel
theorem dX0_couples_9 : decode cX0_couples 9 = .ok (.if_icmp .ge 29, 3) := by decide +kernel
theorem dX0_couples_12 : decode cX0_couples 12 = .ok (.iload_n 1, 1) := by decide +kernel
theorem dX0_couples_13 : decode cX0_couples 13 = .ok (.aload_n 0, 1) := by decide +kernel
theorem dX0_couples_14 : decode cX0_couples 14 = .ok (.getfield 11, 3) := by decide +kernel
theorem dX0_couples_17 : decode cX0_couples 17 = .ok (.iload_n 2, 1) := by decide +kernel
theorem dX0_couples_18 : decode cX0_couples 18 = .ok (.aaload, 1) := by decide +kernel
theorem dX0_couples_19 : decode cX0_couples 19 = .ok (.invokevirtual 129, 3) := by decide +kernel
theorem dX0_couples_22 : decode cX0_couples 22 = .ok (.ifCond .eq 7, 3) := by decide +kernel
theorem dX0_couples_25 : decode cX0_couples 25 = .ok (.iconst 1, 1) := by decide +kernel
theorem dX0_couples_26 : decode cX0_couples 26 = .ok (.goto 4, 3) := by decide +kernel
theorem dX0_couples_29 : decode cX0_couples 29 = .ok (.iconst 0, 1) := by decide +kernel
theorem dX0_couples_30 : decode cX0_couples 30 = .ok (.iadd, 1) := by decide +kernel
theorem dX0_couples_31 : decode cX0_couples 31 = .ok (.istore_n 1, 1) := by decide +kernel
theorem dX0_couples_32 : decode cX0_couples 32 = .ok (.iinc 2 1, 3) := by decide +kernel
theorem dX0_couples_35 : decode cX0_couples 35 = .ok (.goto (-31), 3) := by decide +kernel
theorem dX0_couples_38 : decode cX0_couples 38 = .ok (.iload_n 1, 1) := by decide +kernel
theorem dX0_couples_39 : decode cX0_couples 39 = .ok (.ireturn, 1) := by decide +kernel
theorem dX0_openMatches_0 : decode cX0_openMatches 0 = .ok (.iconst 0, 1) := by decide +kernel
theorem dX0_openMatches_1 : decode cX0_openMatches 1 = .ok (.istore_n 1, 1) := by decide +kernel
theorem dX0_openMatches_2 : decode cX0_openMatches 2 = .ok (.iconst 0, 1) := by decide +kernel
theorem dX0_openMatches_3 : decode cX0_openMatches 3 = .ok (.istore_n 2, 1) := by decide +kernel
theorem dX0_openMatches_4 : decode cX0_openMatches 4 = .ok (.iload_n 2, 1) := by decide +kernel
theorem dX0_openMatches_5 : decode cX0_openMatches 5 = .ok (.aload_n 0, 1) := by decide +kernel
theorem dX0_openMatches_6 : decode cX0_openMatches 6 = .ok (.getfield 71, 3) := by decide +kernel
theorem dX0_openMatches_9 : decode cX0_openMatches 9 = .ok (.if_icmp .ge 51, 3) := by decide +kernel
theorem dX0_openMatches_12 : decode cX0_openMatches 12 = .ok (.aload_n 0, 1) := by decide +kernel
theorem dX0_openMatches_13 : decode cX0_openMatches 13 = .ok (.getfield 11, 3) := by decide +kernel
theorem dX0_openMatches_16 : decode cX0_openMatches 16 = .ok (.iload_n 2, 1) := by decide +kernel
theorem dX0_openMatches_17 : decode cX0_openMatches 17 = .ok (.aaload, 1) := by decide +kernel
theorem dX0_openMatches_18 : decode cX0_openMatches 18 = .ok (.astore_n 3, 1) := by decide +kernel
theorem dX0_openMatches_19 : decode cX0_openMatches 19 = .ok (.aload_n 3, 1) := by decide +kernel
theorem dX0_openMatches_20 : decode cX0_openMatches 20 = .ok (.invokevirtual 129, 3) := by decide +kernel
theorem dX0_openMatches_23 : decode cX0_openMatches 23 = .ok (.ifCond .eq 12, 3) := by decide +kernel
theorem dX0_openMatches_26 : decode cX0_openMatches 26 = .ok (.iconst 1, 1) := by decide +kernel
theorem dX0_openMatches_27 : decode cX0_openMatches 27 = .ok (.aload_n 3, 1) := by decide +kernel
theorem dX0_openMatches_28 : decode cX0_openMatches 28 = .ok (.getfield 65, 3) := by decide +kernel
theorem dX0_openMatches_31 : decode cX0_openMatches 31 = .ok (.ishl, 1) := by decide +kernel
theorem dX0_openMatches_32 : decode cX0_openMatches 32 = .ok (.goto 4, 3) := by decide +kernel
theorem dX0_openMatches_35 : decode cX0_openMatches 35 = .ok (.iconst 0, 1) := by decide +kernel
theorem dX0_openMatches_36 : decode cX0_openMatches 36 = .ok (.istore 4, 2) := by decide +kernel
theorem dX0_openMatches_38 : decode cX0_openMatches 38 = .ok (.iload_n 1, 1) := by decide +kernel
theorem dX0_openMatches_39 : decode cX0_openMatches 39 = .ok (.aload_n 0, 1) := by decide +kernel
theorem dX0_openMatches_40 : decode cX0_openMatches 40 = .ok (.aload_n 3, 1) := by decide +kernel
theorem dX0_openMatches_41 : decode cX0_openMatches 41 = .ok (.invokevirtual 146, 3) := by decide +kernel
theorem dX0_openMatches_44 : decode cX0_openMatches 44 = .ok (.iload 4, 2) := by decide +kernel
theorem dX0_openMatches_46 : decode cX0_openMatches 46 = .ok (.iconst (-1), 1) := by decide +kernel
theorem dX0_openMatches_47 : decode cX0_openMatches 47 = .ok (.ixor, 1) := by decide +kernel
theorem dX0_openMatches_48 : decode cX0_openMatches 48 = .ok (.iand, 1) := by decide +kernel
theorem dX0_openMatches_49 : decode cX0_openMatches 49 = .ok (.invokestatic 185, 3) := by decide +kernel
theorem dX0_openMatches_52 : decode cX0_openMatches 52 = .ok (.iadd, 1) := by decide +kernel
theorem dX0_openMatches_53 : decode cX0_openMatches 53 = .ok (.istore_n 1, 1) := by decide +kernel
theorem dX0_openMatches_54 : decode cX0_openMatches 54 = .ok (.iinc 2 1, 3) := by decide +kernel
theorem dX0_openMatches_57 : decode cX0_openMatches 57 = .ok (.goto (-53), 3) := by decide +kernel
theorem dX0_openMatches_60 : decode cX0_openMatches 60 = .ok (.iload_n 1, 1) := by decide +kernel
theorem dX0_openMatches_61 : decode cX0_openMatches 61 = .ok (.ireturn, 1) := by decide +kernel
theorem dX0_mutualOf_0 : decode cX0_mutualOf 0 = .ok (.iconst 0, 1) := by decide +kernel
theorem dX0_mutualOf_1 : decode cX0_mutualOf 1 = .ok (.istore_n 2, 1) := by decide +kernel
theorem dX0_mutualOf_2 : decode cX0_mutualOf 2 = .ok (.iconst 0, 1) := by decide +kernel
theorem dX0_mutualOf_3 : decode cX0_mutualOf 3 = .ok (.istore_n 3, 1) := by decide +kernel
theorem dX0_mutualOf_4 : decode cX0_mutualOf 4 = .ok (.iload_n 3, 1) := by decide +kernel
theorem dX0_mutualOf_5 : decode cX0_mutualOf 5 = .ok (.aload_n 0, 1) := by decide +kernel
theorem dX0_mutualOf_6 : decode cX0_mutualOf 6 = .ok (.getfield 27, 3) := by decide +kernel
theorem dX0_mutualOf_9 : decode cX0_mutualOf 9 = .ok (.if_icmp .ge 58, 3) := by decide +kernel
theorem dX0_mutualOf_12 : decode cX0_mutualOf 12 = .ok (.aload_n 1, 1) := by decide +kernel
theorem dX0_mutualOf_13 : decode cX0_mutualOf 13 = .ok (.invokevirtual 182, 3) := by decide +kernel
theorem dX0_mutualOf_16 : decode cX0_mutualOf 16 = .ok (.ifCond .eq 51, 3) := by decide +kernel
theorem dX0_mutualOf_19 : decode cX0_mutualOf 19 = .ok (.aload_n 0, 1) := by decide +kernel
theorem dX0_mutualOf_20 : decode cX0_mutualOf 20 = .ok (.getfield 11, 3) := by decide +kernel
theorem dX0_mutualOf_23 : decode cX0_mutualOf 23 = .ok (.iload_n 3, 1) := by decide +kernel
theorem dX0_mutualOf_24 : decode cX0_mutualOf 24 = .ok (.aaload, 1) := by decide +kernel
theorem dX0_mutualOf_25 : decode cX0_mutualOf 25 = .ok (.astore 4, 2) := by decide +kernel
theorem dX0_mutualOf_27 : decode cX0_mutualOf 27 = .ok (.aload 4, 2) := by decide +kernel
theorem dX0_mutualOf_29 : decode cX0_mutualOf 29 = .ok (.invokevirtual 182, 3) := by decide +kernel
theorem dX0_mutualOf_32 : decode cX0_mutualOf 32 = .ok (.ifCond .eq 29, 3) := by decide +kernel
theorem dX0_mutualOf_35 : decode cX0_mutualOf 35 = .ok (.aload_n 1, 1) := by decide +kernel
theorem dX0_mutualOf_36 : decode cX0_mutualOf 36 = .ok (.aload 4, 2) := by decide +kernel
theorem dX0_mutualOf_38 : decode cX0_mutualOf 38 = .ok (.invokevirtual 172, 3) := by decide +kernel
theorem dX0_mutualOf_41 : decode cX0_mutualOf 41 = .ok (.ifCond .eq 20, 3) := by decide +kernel
theorem dX0_mutualOf_44 : decode cX0_mutualOf 44 = .ok (.aload 4, 2) := by decide +kernel
theorem dX0_mutualOf_46 : decode cX0_mutualOf 46 = .ok (.aload_n 1, 1) := by decide +kernel
theorem dX0_mutualOf_47 : decode cX0_mutualOf 47 = .ok (.invokevirtual 172, 3) := by decide +kernel
theorem dX0_mutualOf_50 : decode cX0_mutualOf 50 = .ok (.ifCond .eq 11, 3) := by decide +kernel
theorem dX0_mutualOf_53 : decode cX0_mutualOf 53 = .ok (.iload_n 2, 1) := by decide +kernel
theorem dX0_mutualOf_54 : decode cX0_mutualOf 54 = .ok (.aload 4, 2) := by decide +kernel
theorem dX0_mutualOf_56 : decode cX0_mutualOf 56 = .ok (.getfield 176, 3) := by decide +kernel
theorem dX0_mutualOf_59 : decode cX0_mutualOf 59 = .ok (.ior, 1) := by decide +kernel
theorem dX0_mutualOf_60 : decode cX0_mutualOf 60 = .ok (.istore_n 2, 1) := by decide +kernel
theorem dX0_mutualOf_61 : decode cX0_mutualOf 61 = .ok (.iinc 3 1, 3) := by decide +kernel
theorem dX0_mutualOf_64 : decode cX0_mutualOf 64 = .ok (.goto (-60), 3) := by decide +kernel
theorem dX0_mutualOf_67 : decode cX0_mutualOf 67 = .ok (.iload_n 2, 1) := by decide +kernel
theorem dX0_mutualOf_68 : decode cX0_mutualOf 68 = .ok (.ireturn, 1) := by decide +kernel
theorem dX0_mutualTwos_0 : decode cX0_mutualTwos 0 = .ok (.iconst 0, 1) := by decide +kernel
theorem dX0_mutualTwos_1 : decode cX0_mutualTwos 1 = .ok (.istore_n 1, 1) := by decide +kernel
theorem dX0_mutualTwos_2 : decode cX0_mutualTwos 2 = .ok (.iconst 0, 1) := by decide +kernel
theorem dX0_mutualTwos_3 : decode cX0_mutualTwos 3 = .ok (.istore_n 2, 1) := by decide +kernel
theorem dX0_mutualTwos_4 : decode cX0_mutualTwos 4 = .ok (.iload_n 2, 1) := by decide +kernel
theorem dX0_mutualTwos_5 : decode cX0_mutualTwos 5 = .ok (.aload_n 0, 1) := by decide +kernel
theorem dX0_mutualTwos_6 : decode cX0_mutualTwos 6 = .ok (.getfield 71, 3) := by decide +kernel
theorem dX0_mutualTwos_9 : decode cX0_mutualTwos 9 = .ok (.if_icmp .ge 25, 3) := by decide +kernel
theorem dX0_mutualTwos_12 : decode cX0_mutualTwos 12 = .ok (.iload_n 1, 1) := by decide +kernel
theorem dX0_mutualTwos_13 : decode cX0_mutualTwos 13 = .ok (.aload_n 0, 1) := by decide +kernel
theorem dX0_mutualTwos_14 : decode cX0_mutualTwos 14 = .ok (.aload_n 0, 1) := by decide +kernel
theorem dX0_mutualTwos_15 : decode cX0_mutualTwos 15 = .ok (.getfield 11, 3) := by decide +kernel
theorem dX0_mutualTwos_18 : decode cX0_mutualTwos 18 = .ok (.iload_n 2, 1) := by decide +kernel
theorem dX0_mutualTwos_19 : decode cX0_mutualTwos 19 = .ok (.aaload, 1) := by decide +kernel
theorem dX0_mutualTwos_20 : decode cX0_mutualTwos 20 = .ok (.invokevirtual 190, 3) := by decide +kernel
theorem dX0_mutualTwos_23 : decode cX0_mutualTwos 23 = .ok (.invokestatic 185, 3) := by decide +kernel
theorem dX0_mutualTwos_26 : decode cX0_mutualTwos 26 = .ok (.iadd, 1) := by decide +kernel
theorem dX0_mutualTwos_27 : decode cX0_mutualTwos 27 = .ok (.istore_n 1, 1) := by decide +kernel
theorem dX0_mutualTwos_28 : decode cX0_mutualTwos 28 = .ok (.iinc 2 1, 3) := by decide +kernel
theorem dX0_mutualTwos_31 : decode cX0_mutualTwos 31 = .ok (.goto (-27), 3) := by decide +kernel
theorem dX0_mutualTwos_34 : decode cX0_mutualTwos 34 = .ok (.iload_n 1, 1) := by decide +kernel
theorem dX0_mutualTwos_35 : decode cX0_mutualTwos 35 = .ok (.ireturn, 1) := by decide +kernel
theorem dX0_toAsk_0 : decode cX0_toAsk 0 = .ok (.aload_n 0, 1) := by decide +kernel
theorem dX0_toAsk_1 : decode cX0_toAsk 1 = .ok (.getfield 20, 3) := by decide +kernel
theorem dX0_toAsk_4 : decode cX0_toAsk 4 = .ok (.aload_n 1, 1) := by decide +kernel
theorem dX0_toAsk_5 : decode cX0_toAsk 5 = .ok (.aload_n 0, 1) := by decide +kernel
theorem dX0_toAsk_6 : decode cX0_toAsk 6 = .ok (.getfield 11, 3) := by decide +kernel
theorem dX0_toAsk_9 : decode cX0_toAsk 9 = .ok (.invokevirtual 152, 3) := by decide +kernel
theorem dX0_toAsk_12 : decode cX0_toAsk 12 = .ok (.istore_n 2, 1) := by decide +kernel
theorem dX0_toAsk_13 : decode cX0_toAsk 13 = .ok (.iconst (-1), 1) := by decide +kernel
theorem dX0_toAsk_14 : decode cX0_toAsk 14 = .ok (.istore_n 3, 1) := by decide +kernel
theorem dX0_toAsk_15 : decode cX0_toAsk 15 = .ok (.iload_n 2, 1) := by decide +kernel
theorem dX0_toAsk_16 : decode cX0_toAsk 16 = .ok (.invokestatic 185, 3) := by decide +kernel
theorem dX0_toAsk_19 : decode cX0_toAsk 19 = .ok (.iconst 1, 1) := by decide +kernel
theorem dX0_toAsk_20 : decode cX0_toAsk 20 = .ok (.iadd, 1) := by decide +kernel
theorem dX0_toAsk_21 : decode cX0_toAsk 21 = .ok (.istore 4, 2) := by decide +kernel
theorem dX0_toAsk_23 : decode cX0_toAsk 23 = .ok (.iconst 0, 1) := by decide +kernel
theorem dX0_toAsk_24 : decode cX0_toAsk 24 = .ok (.istore 5, 2) := by decide +kernel
theorem dX0_toAsk_26 : decode cX0_toAsk 26 = .ok (.iload 5, 2) := by decide +kernel
theorem dX0_toAsk_28 : decode cX0_toAsk 28 = .ok (.aload_n 0, 1) := by decide +kernel
theorem dX0_toAsk_29 : decode cX0_toAsk 29 = .ok (.getfield 27, 3) := by decide +kernel
theorem dX0_toAsk_32 : decode cX0_toAsk 32 = .ok (.if_icmp .ge 60, 3) := by decide +kernel
theorem dX0_toAsk_35 : decode cX0_toAsk 35 = .ok (.iload_n 2, 1) := by decide +kernel
theorem dX0_toAsk_36 : decode cX0_toAsk 36 = .ok (.ifCond .eq 56, 3) := by decide +kernel
theorem dX0_toAsk_39 : decode cX0_toAsk 39 = .ok (.aload_n 0, 1) := by decide +kernel
theorem dX0_toAsk_40 : decode cX0_toAsk 40 = .ok (.getfield 11, 3) := by decide +kernel
theorem dX0_toAsk_43 : decode cX0_toAsk 43 = .ok (.iload 5, 2) := by decide +kernel
theorem dX0_toAsk_45 : decode cX0_toAsk 45 = .ok (.aaload, 1) := by decide +kernel
theorem dX0_toAsk_46 : decode cX0_toAsk 46 = .ok (.astore 6, 2) := by decide +kernel
theorem dX0_toAsk_48 : decode cX0_toAsk 48 = .ok (.aload_n 1, 1) := by decide +kernel
theorem dX0_toAsk_49 : decode cX0_toAsk 49 = .ok (.iload_n 2, 1) := by decide +kernel
theorem dX0_toAsk_50 : decode cX0_toAsk 50 = .ok (.aload 6, 2) := by decide +kernel
theorem dX0_toAsk_52 : decode cX0_toAsk 52 = .ok (.invokevirtual 122, 3) := by decide +kernel
theorem dX0_toAsk_55 : decode cX0_toAsk 55 = .ok (.invokestatic 193, 3) := by decide +kernel
theorem dX0_toAsk_58 : decode cX0_toAsk 58 = .ok (.istore 7, 2) := by decide +kernel
theorem dX0_toAsk_60 : decode cX0_toAsk 60 = .ok (.aload 6, 2) := by decide +kernel
theorem dX0_toAsk_62 : decode cX0_toAsk 62 = .ok (.getfield 50, 3) := by decide +kernel
theorem dX0_toAsk_65 : decode cX0_toAsk 65 = .ok (.aload_n 1, 1) := by decide +kernel
theorem dX0_toAsk_66 : decode cX0_toAsk 66 = .ok (.getfield 50, 3) := by decide +kernel
theorem dX0_toAsk_69 : decode cX0_toAsk 69 = .ok (.if_icmp .eq 17, 3) := by decide +kernel
theorem dX0_toAsk_72 : decode cX0_toAsk 72 = .ok (.iload 7, 2) := by decide +kernel
theorem dX0_toAsk_74 : decode cX0_toAsk 74 = .ok (.iload 4, 2) := by decide +kernel
theorem dX0_toAsk_76 : decode cX0_toAsk 76 = .ok (.if_icmp .ge 10, 3) := by decide +kernel
theorem dX0_toAsk_79 : decode cX0_toAsk 79 = .ok (.iload 7, 2) := by decide +kernel
theorem dX0_toAsk_81 : decode cX0_toAsk 81 = .ok (.istore 4, 2) := by decide +kernel
theorem dX0_toAsk_83 : decode cX0_toAsk 83 = .ok (.iload 5, 2) := by decide +kernel
theorem dX0_toAsk_85 : decode cX0_toAsk 85 = .ok (.istore_n 3, 1) := by decide +kernel
theorem dX0_toAsk_86 : decode cX0_toAsk 86 = .ok (.iinc 5 1, 3) := by decide +kernel
theorem dX0_toAsk_89 : decode cX0_toAsk 89 = .ok (.goto (-63), 3) := by decide +kernel
theorem dX0_toAsk_92 : decode cX0_toAsk 92 = .ok (.iload_n 3, 1) := by decide +kernel
theorem dX0_toAsk_93 : decode cX0_toAsk 93 = .ok (.ireturn, 1) := by decide +kernel
theorem dX0_leftAtWorst_0 : decode cX0_leftAtWorst 0 = .ok (.iconst 0, 1) := by decide +kernel
theorem dX0_leftAtWorst_1 : decode cX0_leftAtWorst 1 = .ok (.istore_n 3, 1) := by decide +kernel
theorem dX0_leftAtWorst_2 : decode cX0_leftAtWorst 2 = .ok (.iconst 0, 1) := by decide +kernel
theorem dX0_leftAtWorst_3 : decode cX0_leftAtWorst 3 = .ok (.istore 4, 2) := by decide +kernel
theorem dX0_leftAtWorst_5 : decode cX0_leftAtWorst 5 = .ok (.iconst 0, 1) := by decide +kernel
theorem dX0_leftAtWorst_6 : decode cX0_leftAtWorst 6 = .ok (.istore 5, 2) := by decide +kernel
theorem dX0_leftAtWorst_8 : decode cX0_leftAtWorst 8 = .ok (.iload 5, 2) := by decide +kernel
theorem dX0_leftAtWorst_10 : decode cX0_leftAtWorst 10 = .ok (.bipush 9, 2) := by decide +kernel
theorem dX0_leftAtWorst_12 : decode cX0_leftAtWorst 12 = .ok (.if_icmp .gt 40, 3) := by decide +kernel
theorem dX0_leftAtWorst_15 : decode cX0_leftAtWorst 15 = .ok (.iload_n 1, 1) := by decide +kernel
theorem dX0_leftAtWorst_16 : decode cX0_leftAtWorst 16 = .ok (.iconst 1, 1) := by decide +kernel
theorem dX0_leftAtWorst_17 : decode cX0_leftAtWorst 17 = .ok (.iload 5, 2) := by decide +kernel
theorem dX0_leftAtWorst_19 : decode cX0_leftAtWorst 19 = .ok (.ishl, 1) := by decide +kernel
theorem dX0_leftAtWorst_20 : decode cX0_leftAtWorst 20 = .ok (.iand, 1) := by decide +kernel
theorem dX0_leftAtWorst_21 : decode cX0_leftAtWorst 21 = .ok (.ifCond .ne 6, 3) := by decide +kernel
theorem dX0_leftAtWorst_24 : decode cX0_leftAtWorst 24 = .ok (.goto 22, 3) := by decide +kernel
theorem dX0_leftAtWorst_27 : decode cX0_leftAtWorst 27 = .ok (.aload_n 0, 1) := by decide +kernel
theorem dX0_leftAtWorst_28 : decode cX0_leftAtWorst 28 = .ok (.iload 5, 2) := by decide +kernel
theorem dX0_leftAtWorst_30 : decode cX0_leftAtWorst 30 = .ok (.iload_n 2, 1) := by decide +kernel
theorem dX0_leftAtWorst_31 : decode cX0_leftAtWorst 31 = .ok (.invokevirtual 197, 3) := by decide +kernel
theorem dX0_leftAtWorst_34 : decode cX0_leftAtWorst 34 = .ok (.ifCond .eq 9, 3) := by decide +kernel
theorem dX0_leftAtWorst_37 : decode cX0_leftAtWorst 37 = .ok (.iinc 3 1, 3) := by decide +kernel
theorem dX0_leftAtWorst_40 : decode cX0_leftAtWorst 40 = .ok (.goto 6, 3) := by decide +kernel
theorem dX0_leftAtWorst_43 : decode cX0_leftAtWorst 43 = .ok (.iinc 4 1, 3) := by decide +kernel
theorem dX0_leftAtWorst_46 : decode cX0_leftAtWorst 46 = .ok (.iinc 5 1, 3) := by decide +kernel
theorem dX0_leftAtWorst_49 : decode cX0_leftAtWorst 49 = .ok (.goto (-41), 3) := by decide +kernel
theorem dX0_leftAtWorst_52 : decode cX0_leftAtWorst 52 = .ok (.iload_n 3, 1) := by decide +kernel
theorem dX0_leftAtWorst_53 : decode cX0_leftAtWorst 53 = .ok (.iload 4, 2) := by decide +kernel
theorem dX0_leftAtWorst_55 : decode cX0_leftAtWorst 55 = .ok (.invokestatic 201, 3) := by decide +kernel
theorem dX0_leftAtWorst_58 : decode cX0_leftAtWorst 58 = .ok (.ireturn, 1) := by decide +kernel
theorem dX1_next_0 : decode cX1_next 0 = .ok (.ldc2_w 7, 3) := by decide +kernel
theorem dX1_next_3 : decode cX1_next 3 = .ok (.lload_n 0, 1) := by decide +kernel
theorem dX1_next_4 : decode cX1_next 4 = .ok (.lmul, 1) := by decide +kernel
theorem dX1_next_5 : decode cX1_next 5 = .ok (.ldc2_w 9, 3) := by decide +kernel
theorem dX1_next_8 : decode cX1_next 8 = .ok (.ladd, 1) := by decide +kernel
theorem dX1_next_9 : decode cX1_next 9 = .ok (.ldc2_w 11, 3) := by decide +kernel
theorem dX1_next_12 : decode cX1_next 12 = .ok (.land, 1) := by decide +kernel
theorem dX1_next_13 : decode cX1_next 13 = .ok (.lreturn, 1) := by decide +kernel
theorem dX1_pick_0 : decode cX1_pick 0 = .ok (.iload_n 2, 1) := by decide +kernel
theorem dX1_pick_1 : decode cX1_pick 1 = .ok (.ifCond .le 15, 3) := by decide +kernel
theorem dX1_pick_4 : decode cX1_pick 4 = .ok (.lload_n 0, 1) := by decide +kernel
theorem dX1_pick_5 : decode cX1_pick 5 = .ok (.ldc2_w 13, 3) := by decide +kernel
theorem dX1_pick_8 : decode cX1_pick 8 = .ok (.ldiv, 1) := by decide +kernel
theorem dX1_pick_9 : decode cX1_pick 9 = .ok (.iload_n 2, 1) := by decide +kernel
theorem dX1_pick_10 : decode cX1_pick 10 = .ok (.i2l, 1) := by decide +kernel
theorem dX1_pick_11 : decode cX1_pick 11 = .ok (.lrem, 1) := by decide +kernel
theorem dX1_pick_12 : decode cX1_pick 12 = .ok (.l2i, 1) := by decide +kernel
theorem dX1_pick_13 : decode cX1_pick 13 = .ok (.goto 4, 3) := by decide +kernel
theorem dX1_pick_16 : decode cX1_pick 16 = .ok (.iconst 0, 1) := by decide +kernel
theorem dX1_pick_17 : decode cX1_pick 17 = .ok (.ireturn, 1) := by decide +kernel
theorem dX2_isNumber_0 : decode cX2_isNumber 0 = .ok (.iload_n 0, 1) := by decide +kernel
theorem dX2_isNumber_1 : decode cX2_isNumber 1 = .ok (.ifCond .lt 15, 3) := by decide +kernel
theorem dX2_isNumber_4 : decode cX2_isNumber 4 = .ok (.iload_n 0, 1) := by decide +kernel
theorem dX2_isNumber_5 : decode cX2_isNumber 5 = .ok (.getstatic 45, 3) := by decide +kernel
theorem dX2_isNumber_8 : decode cX2_isNumber 8 = .ok (.arraylength, 1) := by decide +kernel
theorem dX2_isNumber_9 : decode cX2_isNumber 9 = .ok (.if_icmp .ge 7, 3) := by decide +kernel
theorem dX2_isNumber_12 : decode cX2_isNumber 12 = .ok (.iconst 1, 1) := by decide +kernel
theorem dX2_isNumber_13 : decode cX2_isNumber 13 = .ok (.goto 4, 3) := by decide +kernel
theorem dX2_isNumber_16 : decode cX2_isNumber 16 = .ok (.iconst 0, 1) := by decide +kernel
theorem dX2_isNumber_17 : decode cX2_isNumber 17 = .ok (.ireturn, 1) := by decide +kernel
theorem dX2_isLetter_0 : decode cX2_isLetter 0 = .ok (.iconst 0, 1) := by decide +kernel
theorem dX2_isLetter_1 : decode cX2_isLetter 1 = .ok (.istore_n 1, 1) := by decide +kernel
theorem dX2_isLetter_2 : decode cX2_isLetter 2 = .ok (.iload_n 1, 1) := by decide +kernel
theorem dX2_isLetter_3 : decode cX2_isLetter 3 = .ok (.getstatic 45, 3) := by decide +kernel
theorem dX2_isLetter_6 : decode cX2_isLetter 6 = .ok (.arraylength, 1) := by decide +kernel
theorem dX2_isLetter_7 : decode cX2_isLetter 7 = .ok (.if_icmp .ge 23, 3) := by decide +kernel
theorem dX2_isLetter_10 : decode cX2_isLetter 10 = .ok (.getstatic 45, 3) := by decide +kernel
theorem dX2_isLetter_13 : decode cX2_isLetter 13 = .ok (.iload_n 1, 1) := by decide +kernel
theorem dX2_isLetter_14 : decode cX2_isLetter 14 = .ok (.aaload, 1) := by decide +kernel
theorem dX2_isLetter_15 : decode cX2_isLetter 15 = .ok (.getfield 42, 3) := by decide +kernel
theorem dX2_isLetter_18 : decode cX2_isLetter 18 = .ok (.iload_n 0, 1) := by decide +kernel
theorem dX2_isLetter_19 : decode cX2_isLetter 19 = .ok (.if_icmp .ne 5, 3) := by decide +kernel
theorem dX2_isLetter_22 : decode cX2_isLetter 22 = .ok (.iconst 1, 1) := by decide +kernel
theorem dX2_isLetter_23 : decode cX2_isLetter 23 = .ok (.ireturn, 1) := by decide +kernel
theorem dX2_isLetter_24 : decode cX2_isLetter 24 = .ok (.iinc 1 1, 3) := by decide +kernel
theorem dX2_isLetter_27 : decode cX2_isLetter 27 = .ok (.goto (-25), 3) := by decide +kernel
theorem dX2_isLetter_30 : decode cX2_isLetter 30 = .ok (.iconst 0, 1) := by decide +kernel
theorem dX2_isLetter_31 : decode cX2_isLetter 31 = .ok (.ireturn, 1) := by decide +kernel
theorem dX2_ofLetter_0 : decode cX2_ofLetter 0 = .ok (.iconst 0, 1) := by decide +kernel
theorem dX2_ofLetter_1 : decode cX2_ofLetter 1 = .ok (.istore_n 1, 1) := by decide +kernel
theorem dX2_ofLetter_2 : decode cX2_ofLetter 2 = .ok (.iload_n 1, 1) := by decide +kernel
theorem dX2_ofLetter_3 : decode cX2_ofLetter 3 = .ok (.getstatic 45, 3) := by decide +kernel
theorem dX2_ofLetter_6 : decode cX2_ofLetter 6 = .ok (.arraylength, 1) := by decide +kernel
theorem dX2_ofLetter_7 : decode cX2_ofLetter 7 = .ok (.if_icmp .ge 27, 3) := by decide +kernel
theorem dX2_ofLetter_10 : decode cX2_ofLetter 10 = .ok (.getstatic 45, 3) := by decide +kernel
theorem dX2_ofLetter_13 : decode cX2_ofLetter 13 = .ok (.iload_n 1, 1) := by decide +kernel
theorem dX2_ofLetter_14 : decode cX2_ofLetter 14 = .ok (.aaload, 1) := by decide +kernel
theorem dX2_ofLetter_15 : decode cX2_ofLetter 15 = .ok (.getfield 42, 3) := by decide +kernel
theorem dX2_ofLetter_18 : decode cX2_ofLetter 18 = .ok (.iload_n 0, 1) := by decide +kernel
theorem dX2_ofLetter_19 : decode cX2_ofLetter 19 = .ok (.if_icmp .ne 9, 3) := by decide +kernel
theorem dX2_ofLetter_22 : decode cX2_ofLetter 22 = .ok (.getstatic 45, 3) := by decide +kernel
theorem dX2_ofLetter_25 : decode cX2_ofLetter 25 = .ok (.iload_n 1, 1) := by decide +kernel
theorem dX2_ofLetter_26 : decode cX2_ofLetter 26 = .ok (.aaload, 1) := by decide +kernel
theorem dX2_ofLetter_27 : decode cX2_ofLetter 27 = .ok (.areturn, 1) := by decide +kernel
theorem dX2_ofLetter_28 : decode cX2_ofLetter 28 = .ok (.iinc 1 1, 3) := by decide +kernel
theorem dX2_ofLetter_31 : decode cX2_ofLetter 31 = .ok (.goto (-29), 3) := by decide +kernel
theorem dX2_ofLetter_34 : decode cX2_ofLetter 34 = .ok (.getstatic 3, 3) := by decide +kernel
theorem dX2_ofLetter_37 : decode cX2_ofLetter 37 = .ok (.areturn, 1) := by decide +kernel
theorem dX2_isA_0 : decode cX2_isA 0 = .ok (.iload_n 1, 1) := by decide +kernel
theorem dX2_isA_1 : decode cX2_isA 1 = .ok (.getstatic 3, 3) := by decide +kernel
theorem dX2_isA_4 : decode cX2_isA 4 = .ok (.getfield 38, 3) := by decide +kernel
theorem dX2_isA_7 : decode cX2_isA 7 = .ok (.if_icmp .eq 28, 3) := by decide +kernel
theorem dX2_isA_10 : decode cX2_isA 10 = .ok (.iload_n 1, 1) := by decide +kernel
theorem dX2_isA_11 : decode cX2_isA 11 = .ok (.aload_n 0, 1) := by decide +kernel
theorem dX2_isA_12 : decode cX2_isA 12 = .ok (.getfield 38, 3) := by decide +kernel
theorem dX2_isA_15 : decode cX2_isA 15 = .ok (.if_icmp .eq 20, 3) := by decide +kernel
theorem dX2_isA_18 : decode cX2_isA 18 = .ok (.iload_n 1, 1) := by decide +kernel
theorem dX2_isA_19 : decode cX2_isA 19 = .ok (.getstatic 13, 3) := by decide +kernel
theorem dX2_isA_22 : decode cX2_isA 22 = .ok (.getfield 38, 3) := by decide +kernel
theorem dX2_isA_25 : decode cX2_isA 25 = .ok (.if_icmp .ne 14, 3) := by decide +kernel
theorem dX2_isA_28 : decode cX2_isA 28 = .ok (.aload_n 0, 1) := by decide +kernel
theorem dX2_isA_29 : decode cX2_isA 29 = .ok (.getstatic 16, 3) := by decide +kernel
theorem dX2_isA_32 : decode cX2_isA 32 = .ok (.if_acmp .ne 7, 3) := by decide +kernel
theorem dX2_isA_35 : decode cX2_isA 35 = .ok (.iconst 1, 1) := by decide +kernel
theorem dX2_isA_36 : decode cX2_isA 36 = .ok (.goto 4, 3) := by decide +kernel
theorem dX2_isA_39 : decode cX2_isA 39 = .ok (.iconst 0, 1) := by decide +kernel
theorem dX2_isA_40 : decode cX2_isA 40 = .ok (.ireturn, 1) := by decide +kernel
theorem dX3_init_0 : decode cX3_init 0 = .ok (.aload_n 0, 1) := by decide +kernel
theorem dX3_init_1 : decode cX3_init 1 = .ok (.invokespecial 3, 3) := by decide +kernel
theorem dX3_init_4 : decode cX3_init 4 = .ok (.aload_n 0, 1) := by decide +kernel
theorem dX3_init_5 : decode cX3_init 5 = .ok (.bipush 8, 2) := by decide +kernel
theorem dX3_init_7 : decode cX3_init 7 = .ok (.newarray .int, 2) := by decide +kernel
theorem dX3_init_9 : decode cX3_init 9 = .ok (.putfield 9, 3) := by decide +kernel
theorem dX3_init_12 : decode cX3_init 12 = .ok (.aload_n 0, 1) := by decide +kernel
theorem dX3_init_13 : decode cX3_init 13 = .ok (.bipush 8, 2) := by decide +kernel
theorem dX3_init_15 : decode cX3_init 15 = .ok (.newarray .int, 2) := by decide +kernel
theorem dX3_init_17 : decode cX3_init 17 = .ok (.putfield 15, 3) := by decide +kernel
theorem dX3_init_20 : decode cX3_init 20 = .ok (.aload_n 0, 1) := by decide +kernel
theorem dX3_init_21 : decode cX3_init 21 = .ok (.bipush 8, 2) := by decide +kernel
theorem dX3_init_23 : decode cX3_init 23 = .ok (.newarray .int, 2) := by decide +kernel
theorem dX3_init_25 : decode cX3_init 25 = .ok (.putfield 18, 3) := by decide +kernel
theorem dX3_init_28 : decode cX3_init 28 = .ok (.aload_n 0, 1) := by decide +kernel
theorem dX3_init_29 : decode cX3_init 29 = .ok (.bipush 8, 2) := by decide +kernel
theorem dX3_init_31 : decode cX3_init 31 = .ok (.newarray .int, 2) := by decide +kernel
theorem dX3_init_33 : decode cX3_init 33 = .ok (.putfield 21, 3) := by decide +kernel
theorem dX3_init_36 : decode cX3_init 36 = .ok (.aload_n 0, 1) := by decide +kernel
theorem dX3_init_37 : decode cX3_init 37 = .ok (.iconst 4, 1) := by decide +kernel
theorem dX3_init_38 : decode cX3_init 38 = .ok (.newarray .int, 2) := by decide +kernel
theorem dX3_init_40 : decode cX3_init 40 = .ok (.putfield 24, 3) := by decide +kernel
theorem dX3_init_43 : decode cX3_init 43 = .ok (.return_, 1) := by decide +kernel
theorem dX3_canTell_0 : decode cX3_canTell 0 = .ok (.iload_n 0, 1) := by decide +kernel
theorem dX3_canTell_1 : decode cX3_canTell 1 = .ok (.ifCond .eq 19, 3) := by decide +kernel
theorem dX3_canTell_4 : decode cX3_canTell 4 = .ok (.iload_n 0, 1) := by decide +kernel
theorem dX3_canTell_5 : decode cX3_canTell 5 = .ok (.iconst 1, 1) := by decide +kernel
theorem dX3_canTell_6 : decode cX3_canTell 6 = .ok (.if_icmp .eq 14, 3) := by decide +kernel
theorem dX3_canTell_9 : decode cX3_canTell 9 = .ok (.iload_n 0, 1) := by decide +kernel
theorem dX3_canTell_10 : decode cX3_canTell 10 = .ok (.bipush 10, 2) := by decide +kernel
theorem dX3_canTell_12 : decode cX3_canTell 12 = .ok (.bipush 13, 2) := by decide +kernel
theorem dX3_canTell_14 : decode cX3_canTell 14 = .ok (.invokestatic 27, 3) := by decide +kernel
theorem dX3_canTell_17 : decode cX3_canTell 17 = .ok (.ifCond .eq 7, 3) := by decide +kernel
theorem dX3_canTell_20 : decode cX3_canTell 20 = .ok (.iconst 1, 1) := by decide +kernel
theorem dX3_canTell_21 : decode cX3_canTell 21 = .ok (.goto 4, 3) := by decide +kernel
theorem dX3_canTell_24 : decode cX3_canTell 24 = .ok (.iconst 0, 1) := by decide +kernel
theorem dX3_canTell_25 : decode cX3_canTell 25 = .ok (.ireturn, 1) := by decide +kernel
theorem dX3_tell_0 : decode cX3_tell 0 = .ok (.iload_n 1, 1) := by decide +kernel
theorem dX3_tell_1 : decode cX3_tell 1 = .ok (.ifCond .ne 8, 3) := by decide +kernel
theorem dX3_tell_4 : decode cX3_tell 4 = .ok (.aload_n 0, 1) := by decide +kernel
theorem dX3_tell_5 : decode cX3_tell 5 = .ok (.getfield 31, 3) := by decide +kernel
theorem dX3_tell_8 : decode cX3_tell 8 = .ok (.ireturn, 1) := by decide +kernel
theorem dX3_tell_9 : decode cX3_tell 9 = .ok (.iload_n 1, 1) := by decide +kernel
theorem dX3_tell_10 : decode cX3_tell 10 = .ok (.iconst 1, 1) := by decide +kernel
theorem dX3_tell_11 : decode cX3_tell 11 = .ok (.if_icmp .ne 8, 3) := by decide +kernel
theorem dX3_tell_14 : decode cX3_tell 14 = .ok (.aload_n 0, 1) := by decide +kernel
theorem dX3_tell_15 : decode cX3_tell 15 = .ok (.invokevirtual 35, 3) := by decide +kernel
theorem dX3_tell_18 : decode cX3_tell 18 = .ok (.ireturn, 1) := by decide +kernel
theorem dX3_tell_19 : decode cX3_tell 19 = .ok (.iload_n 1, 1) := by decide +kernel
theorem dX3_tell_20 : decode cX3_tell 20 = .ok (.bipush 10, 2) := by decide +kernel
theorem dX3_tell_22 : decode cX3_tell 22 = .ok (.isub, 1) := by decide +kernel
theorem dX3_tell_23 : decode cX3_tell 23 = .ok (.istore_n 2, 1) := by decide +kernel
theorem dX3_tell_24 : decode cX3_tell 24 = .ok (.iload_n 2, 1) := by decide +kernel
theorem dX3_tell_25 : decode cX3_tell 25 = .ok (.ifCond .lt 21, 3) := by decide +kernel
theorem dX3_tell_28 : decode cX3_tell 28 = .ok (.iload_n 2, 1) := by decide +kernel
theorem dX3_tell_29 : decode cX3_tell 29 = .ok (.aload_n 0, 1) := by decide +kernel
theorem dX3_tell_30 : decode cX3_tell 30 = .ok (.getfield 24, 3) := by decide +kernel
theorem dX3_tell_33 : decode cX3_tell 33 = .ok (.arraylength, 1) := by decide +kernel
theorem dX3_tell_34 : decode cX3_tell 34 = .ok (.if_icmp .ge 12, 3) := by decide +kernel
theorem dX3_tell_37 : decode cX3_tell 37 = .ok (.aload_n 0, 1) := by decide +kernel
theorem dX3_tell_38 : decode cX3_tell 38 = .ok (.getfield 24, 3) := by decide +kernel
theorem dX3_tell_41 : decode cX3_tell 41 = .ok (.iload_n 2, 1) := by decide +kernel
theorem dX3_tell_42 : decode cX3_tell 42 = .ok (.iaload, 1) := by decide +kernel
theorem dX3_tell_43 : decode cX3_tell 43 = .ok (.goto 5, 3) := by decide +kernel
theorem dX3_tell_46 : decode cX3_tell 46 = .ok (.bipush (-102), 2) := by decide +kernel
theorem dX3_tell_48 : decode cX3_tell 48 = .ok (.ireturn, 1) := by decide +kernel
theorem dX3_toldCouples_0 : decode cX3_toldCouples 0 = .ok (.iconst 0, 1) := by decide +kernel
theorem dX3_toldCouples_1 : decode cX3_toldCouples 1 = .ok (.istore_n 1, 1) := by decide +kernel
theorem dX3_toldCouples_2 : decode cX3_toldCouples 2 = .ok (.iconst 0, 1) := by decide +kernel
theorem dX3_toldCouples_3 : decode cX3_toldCouples 3 = .ok (.istore_n 2, 1) := by decide +kernel
theorem dX3_toldCouples_4 : decode cX3_toldCouples 4 = .ok (.iload_n 2, 1) := by decide +kernel
theorem dX3_toldCouples_5 : decode cX3_toldCouples 5 = .ok (.aload_n 0, 1) := by decide +kernel
theorem dX3_toldCouples_6 : decode cX3_toldCouples 6 = .ok (.getfield 24, 3) := by decide +kernel
theorem dX3_toldCouples_9 : decode cX3_toldCouples 9 = .ok (.arraylength, 1) := by decide +kernel
theorem dX3_toldCouples_10 : decode cX3_toldCouples 10 = .ok (.if_icmp .ge 27, 3) := by decide +kernel
theorem dX3_toldCouples_13 : decode cX3_toldCouples 13 = .ok (.iload_n 1, 1) := by decide +kernel
theorem dX3_toldCouples_14 : decode cX3_toldCouples 14 = .ok (.aload_n 0, 1) := by decide +kernel
theorem dX3_toldCouples_15 : decode cX3_toldCouples 15 = .ok (.getfield 24, 3) := by decide +kernel
theorem dX3_toldCouples_18 : decode cX3_toldCouples 18 = .ok (.iload_n 2, 1) := by decide +kernel
theorem dX3_toldCouples_19 : decode cX3_toldCouples 19 = .ok (.iaload, 1) := by decide +kernel
theorem dX3_toldCouples_20 : decode cX3_toldCouples 20 = .ok (.iconst (-1), 1) := by decide +kernel
theorem dX3_toldCouples_21 : decode cX3_toldCouples 21 = .ok (.if_icmp .eq 7, 3) := by decide +kernel
theorem dX3_toldCouples_24 : decode cX3_toldCouples 24 = .ok (.iconst 1, 1) := by decide +kernel
theorem dX3_toldCouples_25 : decode cX3_toldCouples 25 = .ok (.goto 4, 3) := by decide +kernel
theorem dX3_toldCouples_28 : decode cX3_toldCouples 28 = .ok (.iconst 0, 1) := by decide +kernel
theorem dX3_toldCouples_29 : decode cX3_toldCouples 29 = .ok (.iadd, 1) := by decide +kernel
theorem dX3_toldCouples_30 : decode cX3_toldCouples 30 = .ok (.istore_n 1, 1) := by decide +kernel
theorem dX3_toldCouples_31 : decode cX3_toldCouples 31 = .ok (.iinc 2 1, 3) := by decide +kernel
theorem dX3_toldCouples_34 : decode cX3_toldCouples 34 = .ok (.goto (-30), 3) := by decide +kernel
theorem dX3_toldCouples_37 : decode cX3_toldCouples 37 = .ok (.iload_n 1, 1) := by decide +kernel
theorem dX3_toldCouples_38 : decode cX3_toldCouples 38 = .ok (.ireturn, 1) := by decide +kernel
theorem dX3_workOut_0 : decode cX3_workOut 0 = .ok (.aload_n 0, 1) := by decide +kernel
theorem dX3_workOut_1 : decode cX3_workOut 1 = .ok (.iconst 0, 1) := by decide +kernel
theorem dX3_workOut_2 : decode cX3_workOut 2 = .ok (.putfield 31, 3) := by decide +kernel
theorem dX3_workOut_5 : decode cX3_workOut 5 = .ok (.iconst 0, 1) := by decide +kernel
theorem dX3_workOut_6 : decode cX3_workOut 6 = .ok (.istore_n 2, 1) := by decide +kernel
theorem dX3_workOut_7 : decode cX3_workOut 7 = .ok (.iload_n 2, 1) := by decide +kernel
theorem dX3_workOut_8 : decode cX3_workOut 8 = .ok (.aload_n 0, 1) := by decide +kernel
theorem dX3_workOut_9 : decode cX3_workOut 9 = .ok (.getfield 24, 3) := by decide +kernel
theorem dX3_workOut_12 : decode cX3_workOut 12 = .ok (.arraylength, 1) := by decide +kernel
theorem dX3_workOut_13 : decode cX3_workOut 13 = .ok (.if_icmp .ge 16, 3) := by decide +kernel
theorem dX3_workOut_16 : decode cX3_workOut 16 = .ok (.aload_n 0, 1) := by decide +kernel
theorem dX3_workOut_17 : decode cX3_workOut 17 = .ok (.getfield 24, 3) := by decide +kernel
theorem dX3_workOut_20 : decode cX3_workOut 20 = .ok (.iload_n 2, 1) := by decide +kernel
theorem dX3_workOut_21 : decode cX3_workOut 21 = .ok (.iconst (-1), 1) := by decide +kernel
theorem dX3_workOut_22 : decode cX3_workOut 22 = .ok (.iastore, 1) := by decide +kernel
theorem dX3_workOut_23 : decode cX3_workOut 23 = .ok (.iinc 2 1, 3) := by decide +kernel
theorem dX3_workOut_26 : decode cX3_workOut 26 = .ok (.goto (-19), 3) := by decide +kernel
theorem dX3_workOut_29 : decode cX3_workOut 29 = .ok (.aload_n 1, 1) := by decide +kernel
theorem dX3_workOut_30 : decode cX3_workOut 30 = .ok (.aload_n 0, 1) := by decide +kernel
theorem dX3_workOut_31 : decode cX3_workOut 31 = .ok (.getfield 9, 3) := by decide +kernel
theorem dX3_workOut_34 : decode cX3_workOut 34 = .ok (.iconst 1, 1) := by decide +kernel
theorem dX3_workOut_35 : decode cX3_workOut 35 = .ok (.invokevirtual 39, 3) := by decide +kernel
theorem dX3_workOut_38 : decode cX3_workOut 38 = .ok (.iconst 0, 1) := by decide +kernel
theorem dX3_workOut_39 : decode cX3_workOut 39 = .ok (.istore_n 2, 1) := by decide +kernel
theorem dX3_workOut_40 : decode cX3_workOut 40 = .ok (.iload_n 2, 1) := by decide +kernel
theorem dX3_workOut_41 : decode cX3_workOut 41 = .ok (.aload_n 1, 1) := by decide +kernel
theorem dX3_workOut_42 : decode cX3_workOut 42 = .ok (.getfield 45, 3) := by decide +kernel
theorem dX3_workOut_45 : decode cX3_workOut 45 = .ok (.if_icmp .ge 44, 3) := by decide +kernel
theorem dX3_workOut_48 : decode cX3_workOut 48 = .ok (.aload_n 0, 1) := by decide +kernel
theorem dX3_workOut_49 : decode cX3_workOut 49 = .ok (.getfield 15, 3) := by decide +kernel
theorem dX3_workOut_52 : decode cX3_workOut 52 = .ok (.aload_n 0, 1) := by decide +kernel
theorem dX3_workOut_53 : decode cX3_workOut 53 = .ok (.getfield 9, 3) := by decide +kernel
theorem dX3_workOut_56 : decode cX3_workOut 56 = .ok (.iload_n 2, 1) := by decide +kernel
theorem dX3_workOut_57 : decode cX3_workOut 57 = .ok (.iaload, 1) := by decide +kernel
theorem dX3_workOut_58 : decode cX3_workOut 58 = .ok (.iload_n 2, 1) := by decide +kernel
theorem dX3_workOut_59 : decode cX3_workOut 59 = .ok (.iastore, 1) := by decide +kernel
theorem dX3_workOut_60 : decode cX3_workOut 60 = .ok (.aload_n 0, 1) := by decide +kernel
theorem dX3_workOut_61 : decode cX3_workOut 61 = .ok (.getfield 18, 3) := by decide +kernel
theorem dX3_workOut_64 : decode cX3_workOut 64 = .ok (.iload_n 2, 1) := by decide +kernel
theorem dX3_workOut_65 : decode cX3_workOut 65 = .ok (.aload_n 1, 1) := by decide +kernel
theorem dX3_workOut_66 : decode cX3_workOut 66 = .ok (.aload_n 1, 1) := by decide +kernel
theorem dX3_workOut_67 : decode cX3_workOut 67 = .ok (.getfield 48, 3) := by decide +kernel
theorem dX3_workOut_70 : decode cX3_workOut 70 = .ok (.iload_n 2, 1) := by decide +kernel
theorem dX3_workOut_71 : decode cX3_workOut 71 = .ok (.aaload, 1) := by decide +kernel
theorem dX3_workOut_72 : decode cX3_workOut 72 = .ok (.invokevirtual 52, 3) := by decide +kernel
theorem dX3_workOut_75 : decode cX3_workOut 75 = .ok (.iastore, 1) := by decide +kernel
theorem dX3_workOut_76 : decode cX3_workOut 76 = .ok (.aload_n 0, 1) := by decide +kernel
theorem dX3_workOut_77 : decode cX3_workOut 77 = .ok (.getfield 21, 3) := by decide +kernel
theorem dX3_workOut_80 : decode cX3_workOut 80 = .ok (.iload_n 2, 1) := by decide +kernel
theorem dX3_workOut_81 : decode cX3_workOut 81 = .ok (.iconst (-1), 1) := by decide +kernel
theorem dX3_workOut_82 : decode cX3_workOut 82 = .ok (.iastore, 1) := by decide +kernel
theorem dX3_workOut_83 : decode cX3_workOut 83 = .ok (.iinc 2 1, 3) := by decide +kernel
theorem dX3_workOut_86 : decode cX3_workOut 86 = .ok (.goto (-46), 3) := by decide +kernel
theorem dX3_workOut_89 : decode cX3_workOut 89 = .ok (.aload_n 0, 1) := by decide +kernel
theorem dX3_workOut_90 : decode cX3_workOut 90 = .ok (.iconst 0, 1) := by decide +kernel
theorem dX3_workOut_91 : decode cX3_workOut 91 = .ok (.aload_n 1, 1) := by decide +kernel
theorem dX3_workOut_92 : decode cX3_workOut 92 = .ok (.getfield 56, 3) := by decide +kernel
theorem dX3_workOut_95 : decode cX3_workOut 95 = .ok (.aload_n 1, 1) := by decide +kernel
theorem dX3_workOut_96 : decode cX3_workOut 96 = .ok (.getfield 45, 3) := by decide +kernel
theorem dX3_workOut_99 : decode cX3_workOut 99 = .ok (.invokevirtual 59, 3) := by decide +kernel
theorem dX3_workOut_102 : decode cX3_workOut 102 = .ok (.return_, 1) := by decide +kernel
theorem dX3_tryFrom_0 : decode cX3_tryFrom 0 = .ok (.iload_n 1, 1) := by decide +kernel
theorem dX3_tryFrom_1 : decode cX3_tryFrom 1 = .ok (.iload_n 2, 1) := by decide +kernel
theorem dX3_tryFrom_2 : decode cX3_tryFrom 2 = .ok (.if_icmp .ge 8, 3) := by decide +kernel
theorem dX3_tryFrom_5 : decode cX3_tryFrom 5 = .ok (.iload_n 1, 1) := by decide +kernel
theorem dX3_tryFrom_6 : decode cX3_tryFrom 6 = .ok (.iconst 4, 1) := by decide +kernel
theorem dX3_tryFrom_7 : decode cX3_tryFrom 7 = .ok (.if_icmp .lt 18, 3) := by decide +kernel
theorem dX3_tryFrom_10 : decode cX3_tryFrom 10 = .ok (.aload_n 0, 1) := by decide +kernel
theorem dX3_tryFrom_11 : decode cX3_tryFrom 11 = .ok (.iload_n 2, 1) := by decide +kernel
theorem dX3_tryFrom_12 : decode cX3_tryFrom 12 = .ok (.iload_n 3, 1) := by decide +kernel
theorem dX3_tryFrom_13 : decode cX3_tryFrom 13 = .ok (.invokevirtual 63, 3) := by decide +kernel
theorem dX3_tryFrom_16 : decode cX3_tryFrom 16 = .ok (.ifCond .eq 8, 3) := by decide +kernel
theorem dX3_tryFrom_19 : decode cX3_tryFrom 19 = .ok (.aload_n 0, 1) := by decide +kernel
theorem dX3_tryFrom_20 : decode cX3_tryFrom 20 = .ok (.iload_n 2, 1) := by decide +kernel
theorem dX3_tryFrom_21 : decode cX3_tryFrom 21 = .ok (.invokevirtual 67, 3) := by decide +kernel
theorem dX3_tryFrom_24 : decode cX3_tryFrom 24 = .ok (.return_, 1) := by decide +kernel
theorem dX3_tryFrom_25 : decode cX3_tryFrom 25 = .ok (.iconst 0, 1) := by decide +kernel
theorem dX3_tryFrom_26 : decode cX3_tryFrom 26 = .ok (.istore 4, 2) := by decide +kernel
theorem dX3_tryFrom_28 : decode cX3_tryFrom 28 = .ok (.iload 4, 2) := by decide +kernel
theorem dX3_tryFrom_30 : decode cX3_tryFrom 30 = .ok (.iload_n 3, 1) := by decide +kernel
theorem dX3_tryFrom_31 : decode cX3_tryFrom 31 = .ok (.if_icmp .ge 79, 3) := by decide +kernel
theorem dX3_tryFrom_34 : decode cX3_tryFrom 34 = .ok (.aload_n 0, 1) := by decide +kernel
theorem dX3_tryFrom_35 : decode cX3_tryFrom 35 = .ok (.getfield 9, 3) := by decide +kernel
theorem dX3_tryFrom_38 : decode cX3_tryFrom 38 = .ok (.iload 4, 2) := by decide +kernel
theorem dX3_tryFrom_40 : decode cX3_tryFrom 40 = .ok (.iaload, 1) := by decide +kernel
theorem dX3_tryFrom_41 : decode cX3_tryFrom 41 = .ok (.istore 5, 2) := by decide +kernel
theorem dX3_tryFrom_43 : decode cX3_tryFrom 43 = .ok (.aload_n 0, 1) := by decide +kernel
theorem dX3_tryFrom_44 : decode cX3_tryFrom 44 = .ok (.iload_n 1, 1) := by decide +kernel
theorem dX3_tryFrom_45 : decode cX3_tryFrom 45 = .ok (.iload 5, 2) := by decide +kernel
theorem dX3_tryFrom_47 : decode cX3_tryFrom 47 = .ok (.invokevirtual 71, 3) := by decide +kernel
theorem dX3_tryFrom_50 : decode cX3_tryFrom 50 = .ok (.ifCond .eq 54, 3) := by decide +kernel
theorem dX3_tryFrom_53 : decode cX3_tryFrom 53 = .ok (.aload_n 0, 1) := by decide +kernel
theorem dX3_tryFrom_54 : decode cX3_tryFrom 54 = .ok (.getfield 21, 3) := by decide +kernel
theorem dX3_tryFrom_57 : decode cX3_tryFrom 57 = .ok (.iload 5, 2) := by decide +kernel
theorem dX3_tryFrom_59 : decode cX3_tryFrom 59 = .ok (.iaload, 1) := by decide +kernel
theorem dX3_tryFrom_60 : decode cX3_tryFrom 60 = .ok (.iconst (-1), 1) := by decide +kernel
theorem dX3_tryFrom_61 : decode cX3_tryFrom 61 = .ok (.if_icmp .ne 43, 3) := by decide +kernel
theorem dX3_tryFrom_64 : decode cX3_tryFrom 64 = .ok (.aload_n 0, 1) := by decide +kernel
theorem dX3_tryFrom_65 : decode cX3_tryFrom 65 = .ok (.getfield 21, 3) := by decide +kernel
theorem dX3_tryFrom_68 : decode cX3_tryFrom 68 = .ok (.iload_n 1, 1) := by decide +kernel
theorem dX3_tryFrom_69 : decode cX3_tryFrom 69 = .ok (.iload 5, 2) := by decide +kernel
theorem dX3_tryFrom_71 : decode cX3_tryFrom 71 = .ok (.iastore, 1) := by decide +kernel
theorem dX3_tryFrom_72 : decode cX3_tryFrom 72 = .ok (.aload_n 0, 1) := by decide +kernel
theorem dX3_tryFrom_73 : decode cX3_tryFrom 73 = .ok (.getfield 21, 3) := by decide +kernel
theorem dX3_tryFrom_76 : decode cX3_tryFrom 76 = .ok (.iload 5, 2) := by decide +kernel
theorem dX3_tryFrom_78 : decode cX3_tryFrom 78 = .ok (.iload_n 1, 1) := by decide +kernel
theorem dX3_tryFrom_79 : decode cX3_tryFrom 79 = .ok (.iastore, 1) := by decide +kernel
theorem dX3_tryFrom_80 : decode cX3_tryFrom 80 = .ok (.aload_n 0, 1) := by decide +kernel
theorem dX3_tryFrom_81 : decode cX3_tryFrom 81 = .ok (.iload_n 1, 1) := by decide +kernel
theorem dX3_tryFrom_82 : decode cX3_tryFrom 82 = .ok (.iconst 1, 1) := by decide +kernel
theorem dX3_tryFrom_83 : decode cX3_tryFrom 83 = .ok (.iadd, 1) := by decide +kernel
theorem dX3_tryFrom_84 : decode cX3_tryFrom 84 = .ok (.iload_n 2, 1) := by decide +kernel
theorem dX3_tryFrom_85 : decode cX3_tryFrom 85 = .ok (.iload_n 3, 1) := by decide +kernel
theorem dX3_tryFrom_86 : decode cX3_tryFrom 86 = .ok (.invokevirtual 59, 3) := by decide +kernel
theorem dX3_tryFrom_89 : decode cX3_tryFrom 89 = .ok (.aload_n 0, 1) := by decide +kernel
theorem dX3_tryFrom_90 : decode cX3_tryFrom 90 = .ok (.getfield 21, 3) := by decide +kernel
theorem dX3_tryFrom_93 : decode cX3_tryFrom 93 = .ok (.iload_n 1, 1) := by decide +kernel
theorem dX3_tryFrom_94 : decode cX3_tryFrom 94 = .ok (.iconst (-1), 1) := by decide +kernel
theorem dX3_tryFrom_95 : decode cX3_tryFrom 95 = .ok (.iastore, 1) := by decide +kernel
theorem dX3_tryFrom_96 : decode cX3_tryFrom 96 = .ok (.aload_n 0, 1) := by decide +kernel
theorem dX3_tryFrom_97 : decode cX3_tryFrom 97 = .ok (.getfield 21, 3) := by decide +kernel
theorem dX3_tryFrom_100 : decode cX3_tryFrom 100 = .ok (.iload 5, 2) := by decide +kernel
theorem dX3_tryFrom_102 : decode cX3_tryFrom 102 = .ok (.iconst (-1), 1) := by decide +kernel
theorem dX3_tryFrom_103 : decode cX3_tryFrom 103 = .ok (.iastore, 1) := by decide +kernel
theorem dX3_tryFrom_104 : decode cX3_tryFrom 104 = .ok (.iinc 4 1, 3) := by decide +kernel
theorem dX3_tryFrom_107 : decode cX3_tryFrom 107 = .ok (.goto (-79), 3) := by decide +kernel
theorem dX3_tryFrom_110 : decode cX3_tryFrom 110 = .ok (.aload_n 0, 1) := by decide +kernel
theorem dX3_tryFrom_111 : decode cX3_tryFrom 111 = .ok (.iload_n 1, 1) := by decide +kernel
theorem dX3_tryFrom_112 : decode cX3_tryFrom 112 = .ok (.iconst 1, 1) := by decide +kernel
theorem dX3_tryFrom_113 : decode cX3_tryFrom 113 = .ok (.iadd, 1) := by decide +kernel
theorem dX3_tryFrom_114 : decode cX3_tryFrom 114 = .ok (.iload_n 2, 1) := by decide +kernel
theorem dX3_tryFrom_115 : decode cX3_tryFrom 115 = .ok (.iload_n 3, 1) := by decide +kernel
theorem dX3_tryFrom_116 : decode cX3_tryFrom 116 = .ok (.invokevirtual 59, 3) := by decide +kernel
theorem dX3_tryFrom_119 : decode cX3_tryFrom 119 = .ok (.return_, 1) := by decide +kernel
theorem dX3_lasts_0 : decode cX3_lasts 0 = .ok (.iconst 0, 1) := by decide +kernel
theorem dX3_lasts_1 : decode cX3_lasts 1 = .ok (.istore_n 3, 1) := by decide +kernel
theorem dX3_lasts_2 : decode cX3_lasts 2 = .ok (.iload_n 3, 1) := by decide +kernel
theorem dX3_lasts_3 : decode cX3_lasts 3 = .ok (.iload_n 1, 1) := by decide +kernel
theorem dX3_lasts_4 : decode cX3_lasts 4 = .ok (.if_icmp .ge 56, 3) := by decide +kernel
theorem dX3_lasts_7 : decode cX3_lasts 7 = .ok (.iload_n 1, 1) := by decide +kernel
theorem dX3_lasts_8 : decode cX3_lasts 8 = .ok (.istore 4, 2) := by decide +kernel
theorem dX3_lasts_10 : decode cX3_lasts 10 = .ok (.iload 4, 2) := by decide +kernel
theorem dX3_lasts_12 : decode cX3_lasts 12 = .ok (.iload_n 2, 1) := by decide +kernel
theorem dX3_lasts_13 : decode cX3_lasts 13 = .ok (.if_icmp .ge 41, 3) := by decide +kernel
theorem dX3_lasts_16 : decode cX3_lasts 16 = .ok (.aload_n 0, 1) := by decide +kernel
theorem dX3_lasts_17 : decode cX3_lasts 17 = .ok (.iload_n 3, 1) := by decide +kernel
theorem dX3_lasts_18 : decode cX3_lasts 18 = .ok (.iload 4, 2) := by decide +kernel
theorem dX3_lasts_20 : decode cX3_lasts 20 = .ok (.invokevirtual 71, 3) := by decide +kernel
theorem dX3_lasts_23 : decode cX3_lasts 23 = .ok (.ifCond .eq 25, 3) := by decide +kernel
theorem dX3_lasts_26 : decode cX3_lasts 26 = .ok (.aload_n 0, 1) := by decide +kernel
theorem dX3_lasts_27 : decode cX3_lasts 27 = .ok (.iload_n 3, 1) := by decide +kernel
theorem dX3_lasts_28 : decode cX3_lasts 28 = .ok (.iload 4, 2) := by decide +kernel
theorem dX3_lasts_30 : decode cX3_lasts 30 = .ok (.invokevirtual 74, 3) := by decide +kernel
theorem dX3_lasts_33 : decode cX3_lasts 33 = .ok (.ifCond .eq 15, 3) := by decide +kernel
theorem dX3_lasts_36 : decode cX3_lasts 36 = .ok (.aload_n 0, 1) := by decide +kernel
theorem dX3_lasts_37 : decode cX3_lasts 37 = .ok (.iload 4, 2) := by decide +kernel
theorem dX3_lasts_39 : decode cX3_lasts 39 = .ok (.iload_n 3, 1) := by decide +kernel
theorem dX3_lasts_40 : decode cX3_lasts 40 = .ok (.invokevirtual 74, 3) := by decide +kernel
theorem dX3_lasts_43 : decode cX3_lasts 43 = .ok (.ifCond .eq 5, 3) := by decide +kernel
theorem dX3_lasts_46 : decode cX3_lasts 46 = .ok (.iconst 0, 1) := by decide +kernel
theorem dX3_lasts_47 : decode cX3_lasts 47 = .ok (.ireturn, 1) := by decide +kernel
theorem dX3_lasts_48 : decode cX3_lasts 48 = .ok (.iinc 4 1, 3) := by decide +kernel
theorem dX3_lasts_51 : decode cX3_lasts 51 = .ok (.goto (-41), 3) := by decide +kernel
theorem dX3_lasts_54 : decode cX3_lasts 54 = .ok (.iinc 3 1, 3) := by decide +kernel
theorem dX3_lasts_57 : decode cX3_lasts 57 = .ok (.goto (-55), 3) := by decide +kernel
theorem dX3_lasts_60 : decode cX3_lasts 60 = .ok (.iconst 1, 1) := by decide +kernel
theorem dX3_lasts_61 : decode cX3_lasts 61 = .ok (.ireturn, 1) := by decide +kernel
theorem dX3_keepRow_0 : decode cX3_keepRow 0 = .ok (.iconst 0, 1) := by decide +kernel
theorem dX3_keepRow_1 : decode cX3_keepRow 1 = .ok (.istore_n 2, 1) := by decide +kernel
theorem dX3_keepRow_2 : decode cX3_keepRow 2 = .ok (.iload_n 2, 1) := by decide +kernel
theorem dX3_keepRow_3 : decode cX3_keepRow 3 = .ok (.iload_n 1, 1) := by decide +kernel
theorem dX3_keepRow_4 : decode cX3_keepRow 4 = .ok (.if_icmp .ge 37, 3) := by decide +kernel
theorem dX3_keepRow_7 : decode cX3_keepRow 7 = .ok (.iload_n 2, 1) := by decide +kernel
theorem dX3_keepRow_8 : decode cX3_keepRow 8 = .ok (.aload_n 0, 1) := by decide +kernel
theorem dX3_keepRow_9 : decode cX3_keepRow 9 = .ok (.getfield 24, 3) := by decide +kernel
theorem dX3_keepRow_12 : decode cX3_keepRow 12 = .ok (.arraylength, 1) := by decide +kernel
theorem dX3_keepRow_13 : decode cX3_keepRow 13 = .ok (.if_icmp .ge 28, 3) := by decide +kernel
theorem dX3_keepRow_16 : decode cX3_keepRow 16 = .ok (.aload_n 0, 1) := by decide +kernel
theorem dX3_keepRow_17 : decode cX3_keepRow 17 = .ok (.getfield 31, 3) := by decide +kernel
theorem dX3_keepRow_20 : decode cX3_keepRow 20 = .ok (.ifCond .ne 21, 3) := by decide +kernel
theorem dX3_keepRow_23 : decode cX3_keepRow 23 = .ok (.aload_n 0, 1) := by decide +kernel
theorem dX3_keepRow_24 : decode cX3_keepRow 24 = .ok (.getfield 24, 3) := by decide +kernel
theorem dX3_keepRow_27 : decode cX3_keepRow 27 = .ok (.iload_n 2, 1) := by decide +kernel
theorem dX3_keepRow_28 : decode cX3_keepRow 28 = .ok (.aload_n 0, 1) := by decide +kernel
theorem dX3_keepRow_29 : decode cX3_keepRow 29 = .ok (.getfield 21, 3) := by decide +kernel
theorem dX3_keepRow_32 : decode cX3_keepRow 32 = .ok (.iload_n 2, 1) := by decide +kernel
theorem dX3_keepRow_33 : decode cX3_keepRow 33 = .ok (.iaload, 1) := by decide +kernel
theorem dX3_keepRow_34 : decode cX3_keepRow 34 = .ok (.iastore, 1) := by decide +kernel
theorem dX3_keepRow_35 : decode cX3_keepRow 35 = .ok (.iinc 2 1, 3) := by decide +kernel
theorem dX3_keepRow_38 : decode cX3_keepRow 38 = .ok (.goto (-36), 3) := by decide +kernel
theorem dX3_keepRow_41 : decode cX3_keepRow 41 = .ok (.aload_n 0, 1) := by decide +kernel
theorem dX3_keepRow_42 : decode cX3_keepRow 42 = .ok (.dup, 1) := by decide +kernel
theorem dX3_keepRow_43 : decode cX3_keepRow 43 = .ok (.getfield 31, 3) := by decide +kernel
theorem dX3_keepRow_46 : decode cX3_keepRow 46 = .ok (.iconst 1, 1) := by decide +kernel
theorem dX3_keepRow_47 : decode cX3_keepRow 47 = .ok (.iadd, 1) := by decide +kernel
theorem dX3_keepRow_48 : decode cX3_keepRow 48 = .ok (.putfield 31, 3) := by decide +kernel
theorem dX3_keepRow_51 : decode cX3_keepRow 51 = .ok (.return_, 1) := by decide +kernel
theorem dX3_isMutual_0 : decode cX3_isMutual 0 = .ok (.aload_n 0, 1) := by decide +kernel
theorem dX3_isMutual_1 : decode cX3_isMutual 1 = .ok (.getfield 18, 3) := by decide +kernel
theorem dX3_isMutual_4 : decode cX3_isMutual 4 = .ok (.iload_n 1, 1) := by decide +kernel
theorem dX3_isMutual_5 : decode cX3_isMutual 5 = .ok (.iaload, 1) := by decide +kernel
theorem dX3_isMutual_6 : decode cX3_isMutual 6 = .ok (.iconst 1, 1) := by decide +kernel
