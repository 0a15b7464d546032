theorem dX10_read_70 : decode cX10_read 70 = .ok (.iload_n 2, 1) := by decide +kernel
theorem dX10_read_71 : decode cX10_read 71 = .ok (.ireturn, 1) := by decide +kernel
theorem dX10_fault_0 : decode cX10_fault 0 = .ok (.aload_n 0, 1) := by decide +kernel
theorem dX10_fault_1 : decode cX10_fault 1 = .ok (.invokevirtual 133, 3) := by decide +kernel
theorem dX10_fault_4 : decode cX10_fault 4 = .ok (.ireturn, 1) := by decide +kernel
theorem dX10_sea_0 : decode cX10_sea 0 = .ok (.aload_n 0, 1) := by decide +kernel
theorem dX10_sea_1 : decode cX10_sea 1 = .ok (.invokevirtual 133, 3) := by decide +kernel
theorem dX10_sea_4 : decode cX10_sea 4 = .ok (.pop, 1) := by decide +kernel
theorem dX10_sea_5 : decode cX10_sea 5 = .ok (.aload_n 0, 1) := by decide +kernel
theorem dX10_sea_6 : decode cX10_sea 6 = .ok (.getfield 120, 3) := by decide +kernel
theorem dX10_sea_9 : decode cX10_sea 9 = .ok (.ifCond .ne 6, 3) := by decide +kernel
theorem dX10_sea_12 : decode cX10_sea 12 = .ok (.bipush (-103), 2) := by decide +kernel
theorem dX10_sea_14 : decode cX10_sea 14 = .ok (.ireturn, 1) := by decide +kernel
theorem dX10_sea_15 : decode cX10_sea 15 = .ok (.aload_n 0, 1) := by decide +kernel
theorem dX10_sea_16 : decode cX10_sea 16 = .ok (.aload_n 0, 1) := by decide +kernel
theorem dX10_sea_17 : decode cX10_sea 17 = .ok (.getfield 130, 3) := by decide +kernel
theorem dX10_sea_20 : decode cX10_sea 20 = .ok (.putfield 137, 3) := by decide +kernel
theorem dX10_sea_23 : decode cX10_sea 23 = .ok (.aload_n 0, 1) := by decide +kernel
theorem dX10_sea_24 : decode cX10_sea 24 = .ok (.aload_n 0, 1) := by decide +kernel
theorem dX10_sea_25 : decode cX10_sea 25 = .ok (.getfield 130, 3) := by decide +kernel
theorem dX10_sea_28 : decode cX10_sea 28 = .ok (.aload_n 0, 1) := by decide +kernel
theorem dX10_sea_29 : decode cX10_sea 29 = .ok (.getfield 117, 3) := by decide +kernel
theorem dX10_sea_32 : decode cX10_sea 32 = .ok (.iadd, 1) := by decide +kernel
theorem dX10_sea_33 : decode cX10_sea 33 = .ok (.putfield 140, 3) := by decide +kernel
theorem dX10_sea_36 : decode cX10_sea 36 = .ok (.iconst 0, 1) := by decide +kernel
theorem dX10_sea_37 : decode cX10_sea 37 = .ok (.istore_n 1, 1) := by decide +kernel
theorem dX10_sea_38 : decode cX10_sea 38 = .ok (.iload_n 1, 1) := by decide +kernel
theorem dX10_sea_39 : decode cX10_sea 39 = .ok (.aload_n 0, 1) := by decide +kernel
theorem dX10_sea_40 : decode cX10_sea 40 = .ok (.getfield 140, 3) := by decide +kernel
theorem dX10_sea_43 : decode cX10_sea 43 = .ok (.if_icmp .ge 118, 3) := by decide +kernel
theorem dX10_sea_46 : decode cX10_sea 46 = .ok (.aload_n 0, 1) := by decide +kernel
theorem dX10_sea_47 : decode cX10_sea 47 = .ok (.getfield 7, 3) := by decide +kernel
theorem dX10_sea_50 : decode cX10_sea 50 = .ok (.iload_n 1, 1) := by decide +kernel
theorem dX10_sea_51 : decode cX10_sea 51 = .ok (.aload_n 0, 1) := by decide +kernel
theorem dX10_sea_52 : decode cX10_sea 52 = .ok (.getfield 46, 3) := by decide +kernel
theorem dX10_sea_55 : decode cX10_sea 55 = .ok (.iconst 5, 1) := by decide +kernel
theorem dX10_sea_56 : decode cX10_sea 56 = .ok (.iload_n 1, 1) := by decide +kernel
theorem dX10_sea_57 : decode cX10_sea 57 = .ok (.imul, 1) := by decide +kernel
theorem dX10_sea_58 : decode cX10_sea 58 = .ok (.baload, 1) := by decide +kernel
theorem dX10_sea_59 : decode cX10_sea 59 = .ok (.invokestatic 110, 3) := by decide +kernel
theorem dX10_sea_62 : decode cX10_sea 62 = .ok (.iastore, 1) := by decide +kernel
theorem dX10_sea_63 : decode cX10_sea 63 = .ok (.aload_n 0, 1) := by decide +kernel
theorem dX10_sea_64 : decode cX10_sea 64 = .ok (.getfield 13, 3) := by decide +kernel
theorem dX10_sea_67 : decode cX10_sea 67 = .ok (.iload_n 1, 1) := by decide +kernel
theorem dX10_sea_68 : decode cX10_sea 68 = .ok (.aload_n 0, 1) := by decide +kernel
theorem dX10_sea_69 : decode cX10_sea 69 = .ok (.getfield 46, 3) := by decide +kernel
theorem dX10_sea_72 : decode cX10_sea 72 = .ok (.iconst 5, 1) := by decide +kernel
theorem dX10_sea_73 : decode cX10_sea 73 = .ok (.iload_n 1, 1) := by decide +kernel
theorem dX10_sea_74 : decode cX10_sea 74 = .ok (.imul, 1) := by decide +kernel
theorem dX10_sea_75 : decode cX10_sea 75 = .ok (.iconst 1, 1) := by decide +kernel
theorem dX10_sea_76 : decode cX10_sea 76 = .ok (.iadd, 1) := by decide +kernel
theorem dX10_sea_77 : decode cX10_sea 77 = .ok (.baload, 1) := by decide +kernel
theorem dX10_sea_78 : decode cX10_sea 78 = .ok (.bipush 48, 2) := by decide +kernel
theorem dX10_sea_80 : decode cX10_sea 80 = .ok (.isub, 1) := by decide +kernel
theorem dX10_sea_81 : decode cX10_sea 81 = .ok (.iastore, 1) := by decide +kernel
theorem dX10_sea_82 : decode cX10_sea 82 = .ok (.aload_n 0, 1) := by decide +kernel
theorem dX10_sea_83 : decode cX10_sea 83 = .ok (.getfield 16, 3) := by decide +kernel
theorem dX10_sea_86 : decode cX10_sea 86 = .ok (.iload_n 1, 1) := by decide +kernel
theorem dX10_sea_87 : decode cX10_sea 87 = .ok (.aload_n 0, 1) := by decide +kernel
theorem dX10_sea_88 : decode cX10_sea 88 = .ok (.getfield 46, 3) := by decide +kernel
theorem dX10_sea_91 : decode cX10_sea 91 = .ok (.iconst 5, 1) := by decide +kernel
theorem dX10_sea_92 : decode cX10_sea 92 = .ok (.iload_n 1, 1) := by decide +kernel
theorem dX10_sea_93 : decode cX10_sea 93 = .ok (.imul, 1) := by decide +kernel
theorem dX10_sea_94 : decode cX10_sea 94 = .ok (.iconst 2, 1) := by decide +kernel
theorem dX10_sea_95 : decode cX10_sea 95 = .ok (.iadd, 1) := by decide +kernel
theorem dX10_sea_96 : decode cX10_sea 96 = .ok (.baload, 1) := by decide +kernel
theorem dX10_sea_97 : decode cX10_sea 97 = .ok (.bipush 48, 2) := by decide +kernel
theorem dX10_sea_99 : decode cX10_sea 99 = .ok (.isub, 1) := by decide +kernel
theorem dX10_sea_100 : decode cX10_sea 100 = .ok (.iastore, 1) := by decide +kernel
theorem dX10_sea_101 : decode cX10_sea 101 = .ok (.aload_n 0, 1) := by decide +kernel
theorem dX10_sea_102 : decode cX10_sea 102 = .ok (.getfield 19, 3) := by decide +kernel
theorem dX10_sea_105 : decode cX10_sea 105 = .ok (.iload_n 1, 1) := by decide +kernel
theorem dX10_sea_106 : decode cX10_sea 106 = .ok (.aload_n 0, 1) := by decide +kernel
theorem dX10_sea_107 : decode cX10_sea 107 = .ok (.getfield 46, 3) := by decide +kernel
theorem dX10_sea_110 : decode cX10_sea 110 = .ok (.iconst 5, 1) := by decide +kernel
theorem dX10_sea_111 : decode cX10_sea 111 = .ok (.iload_n 1, 1) := by decide +kernel
theorem dX10_sea_112 : decode cX10_sea 112 = .ok (.imul, 1) := by decide +kernel
theorem dX10_sea_113 : decode cX10_sea 113 = .ok (.iconst 3, 1) := by decide +kernel
theorem dX10_sea_114 : decode cX10_sea 114 = .ok (.iadd, 1) := by decide +kernel
theorem dX10_sea_115 : decode cX10_sea 115 = .ok (.baload, 1) := by decide +kernel
theorem dX10_sea_116 : decode cX10_sea 116 = .ok (.bipush 48, 2) := by decide +kernel
theorem dX10_sea_118 : decode cX10_sea 118 = .ok (.isub, 1) := by decide +kernel
theorem dX10_sea_119 : decode cX10_sea 119 = .ok (.iastore, 1) := by decide +kernel
theorem dX10_sea_120 : decode cX10_sea 120 = .ok (.aload_n 0, 1) := by decide +kernel
theorem dX10_sea_121 : decode cX10_sea 121 = .ok (.getfield 22, 3) := by decide +kernel
theorem dX10_sea_124 : decode cX10_sea 124 = .ok (.iload_n 1, 1) := by decide +kernel
theorem dX10_sea_125 : decode cX10_sea 125 = .ok (.iconst 0, 1) := by decide +kernel
theorem dX10_sea_126 : decode cX10_sea 126 = .ok (.iastore, 1) := by decide +kernel
theorem dX10_sea_127 : decode cX10_sea 127 = .ok (.aload_n 0, 1) := by decide +kernel
theorem dX10_sea_128 : decode cX10_sea 128 = .ok (.getfield 25, 3) := by decide +kernel
theorem dX10_sea_131 : decode cX10_sea 131 = .ok (.iload_n 1, 1) := by decide +kernel
theorem dX10_sea_132 : decode cX10_sea 132 = .ok (.iconst 0, 1) := by decide +kernel
theorem dX10_sea_133 : decode cX10_sea 133 = .ok (.iastore, 1) := by decide +kernel
theorem dX10_sea_134 : decode cX10_sea 134 = .ok (.aload_n 0, 1) := by decide +kernel
theorem dX10_sea_135 : decode cX10_sea 135 = .ok (.getfield 28, 3) := by decide +kernel
theorem dX10_sea_138 : decode cX10_sea 138 = .ok (.iload_n 1, 1) := by decide +kernel
theorem dX10_sea_139 : decode cX10_sea 139 = .ok (.iconst 0, 1) := by decide +kernel
theorem dX10_sea_140 : decode cX10_sea 140 = .ok (.iastore, 1) := by decide +kernel
theorem dX10_sea_141 : decode cX10_sea 141 = .ok (.aload_n 0, 1) := by decide +kernel
theorem dX10_sea_142 : decode cX10_sea 142 = .ok (.getfield 31, 3) := by decide +kernel
theorem dX10_sea_145 : decode cX10_sea 145 = .ok (.iload_n 1, 1) := by decide +kernel
theorem dX10_sea_146 : decode cX10_sea 146 = .ok (.iconst 0, 1) := by decide +kernel
theorem dX10_sea_147 : decode cX10_sea 147 = .ok (.iastore, 1) := by decide +kernel
theorem dX10_sea_148 : decode cX10_sea 148 = .ok (.aload_n 0, 1) := by decide +kernel
theorem dX10_sea_149 : decode cX10_sea 149 = .ok (.getfield 34, 3) := by decide +kernel
theorem dX10_sea_152 : decode cX10_sea 152 = .ok (.iload_n 1, 1) := by decide +kernel
theorem dX10_sea_153 : decode cX10_sea 153 = .ok (.iconst (-1), 1) := by decide +kernel
theorem dX10_sea_154 : decode cX10_sea 154 = .ok (.iastore, 1) := by decide +kernel
theorem dX10_sea_155 : decode cX10_sea 155 = .ok (.iinc 1 1, 3) := by decide +kernel
theorem dX10_sea_158 : decode cX10_sea 158 = .ok (.goto (-120), 3) := by decide +kernel
theorem dX10_sea_161 : decode cX10_sea 161 = .ok (.aload_n 0, 1) := by decide +kernel
theorem dX10_sea_162 : decode cX10_sea 162 = .ok (.bipush 9, 2) := by decide +kernel
theorem dX10_sea_164 : decode cX10_sea 164 = .ok (.putfield 143, 3) := by decide +kernel
theorem dX10_sea_167 : decode cX10_sea 167 = .ok (.aload_n 0, 1) := by decide +kernel
theorem dX10_sea_168 : decode cX10_sea 168 = .ok (.iconst 0, 1) := by decide +kernel
theorem dX10_sea_169 : decode cX10_sea 169 = .ok (.putfield 146, 3) := by decide +kernel
theorem dX10_sea_172 : decode cX10_sea 172 = .ok (.aload_n 0, 1) := by decide +kernel
theorem dX10_sea_173 : decode cX10_sea 173 = .ok (.iconst 0, 1) := by decide +kernel
theorem dX10_sea_174 : decode cX10_sea 174 = .ok (.putfield 149, 3) := by decide +kernel
theorem dX10_sea_177 : decode cX10_sea 177 = .ok (.aload_n 0, 1) := by decide +kernel
theorem dX10_sea_178 : decode cX10_sea 178 = .ok (.iconst 0, 1) := by decide +kernel
theorem dX10_sea_179 : decode cX10_sea 179 = .ok (.putfield 152, 3) := by decide +kernel
theorem dX10_sea_182 : decode cX10_sea 182 = .ok (.aload_n 0, 1) := by decide +kernel
theorem dX10_sea_183 : decode cX10_sea 183 = .ok (.iconst 0, 1) := by decide +kernel
theorem dX10_sea_184 : decode cX10_sea 184 = .ok (.putfield 155, 3) := by decide +kernel
theorem dX10_sea_187 : decode cX10_sea 187 = .ok (.aload_n 0, 1) := by decide +kernel
theorem dX10_sea_188 : decode cX10_sea 188 = .ok (.iconst 0, 1) := by decide +kernel
theorem dX10_sea_189 : decode cX10_sea 189 = .ok (.putfield 158, 3) := by decide +kernel
theorem dX10_sea_192 : decode cX10_sea 192 = .ok (.aload_n 0, 1) := by decide +kernel
theorem dX10_sea_193 : decode cX10_sea 193 = .ok (.dup, 1) := by decide +kernel
theorem dX10_sea_194 : decode cX10_sea 194 = .ok (.getfield 161, 3) := by decide +kernel
theorem dX10_sea_197 : decode cX10_sea 197 = .ok (.iconst 1, 1) := by decide +kernel
theorem dX10_sea_198 : decode cX10_sea 198 = .ok (.iadd, 1) := by decide +kernel
theorem dX10_sea_199 : decode cX10_sea 199 = .ok (.putfield 161, 3) := by decide +kernel
theorem dX10_sea_202 : decode cX10_sea 202 = .ok (.aload_n 0, 1) := by decide +kernel
theorem dX10_sea_203 : decode cX10_sea 203 = .ok (.iconst 0, 1) := by decide +kernel
theorem dX10_sea_204 : decode cX10_sea 204 = .ok (.putfield 164, 3) := by decide +kernel
theorem dX10_sea_207 : decode cX10_sea 207 = .ok (.aload_n 0, 1) := by decide +kernel
theorem dX10_sea_208 : decode cX10_sea 208 = .ok (.iconst 0, 1) := by decide +kernel
theorem dX10_sea_209 : decode cX10_sea 209 = .ok (.putfield 102, 3) := by decide +kernel
theorem dX10_sea_212 : decode cX10_sea 212 = .ok (.aload_n 0, 1) := by decide +kernel
theorem dX10_sea_213 : decode cX10_sea 213 = .ok (.getfield 140, 3) := by decide +kernel
theorem dX10_sea_216 : decode cX10_sea 216 = .ok (.ireturn, 1) := by decide +kernel
theorem dX10_isPerson_0 : decode cX10_isPerson 0 = .ok (.iload_n 1, 1) := by decide +kernel
theorem dX10_isPerson_1 : decode cX10_isPerson 1 = .ok (.iconst 0, 1) := by decide +kernel
theorem dX10_isPerson_2 : decode cX10_isPerson 2 = .ok (.aload_n 0, 1) := by decide +kernel
theorem dX10_isPerson_3 : decode cX10_isPerson 3 = .ok (.getfield 140, 3) := by decide +kernel
theorem dX10_isPerson_6 : decode cX10_isPerson 6 = .ok (.iconst 1, 1) := by decide +kernel
theorem dX10_isPerson_7 : decode cX10_isPerson 7 = .ok (.isub, 1) := by decide +kernel
theorem dX10_isPerson_8 : decode cX10_isPerson 8 = .ok (.invokestatic 98, 3) := by decide +kernel
theorem dX10_isPerson_11 : decode cX10_isPerson 11 = .ok (.ireturn, 1) := by decide +kernel
theorem dX10_areTwo_0 : decode cX10_areTwo 0 = .ok (.aload_n 0, 1) := by decide +kernel
theorem dX10_areTwo_1 : decode cX10_areTwo 1 = .ok (.iload_n 1, 1) := by decide +kernel
theorem dX10_areTwo_2 : decode cX10_areTwo 2 = .ok (.invokevirtual 167, 3) := by decide +kernel
theorem dX10_areTwo_5 : decode cX10_areTwo 5 = .ok (.ifCond .eq 15, 3) := by decide +kernel
theorem dX10_areTwo_8 : decode cX10_areTwo 8 = .ok (.aload_n 0, 1) := by decide +kernel
theorem dX10_areTwo_9 : decode cX10_areTwo 9 = .ok (.iload_n 2, 1) := by decide +kernel
theorem dX10_areTwo_10 : decode cX10_areTwo 10 = .ok (.invokevirtual 167, 3) := by decide +kernel
theorem dX10_areTwo_13 : decode cX10_areTwo 13 = .ok (.ifCond .eq 7, 3) := by decide +kernel
theorem dX10_areTwo_16 : decode cX10_areTwo 16 = .ok (.iconst 1, 1) := by decide +kernel
theorem dX10_areTwo_17 : decode cX10_areTwo 17 = .ok (.goto 4, 3) := by decide +kernel
theorem dX10_areTwo_20 : decode cX10_areTwo 20 = .ok (.iconst 0, 1) := by decide +kernel
theorem dX10_areTwo_21 : decode cX10_areTwo 21 = .ok (.ireturn, 1) := by decide +kernel
theorem dX10_sideOf_0 : decode cX10_sideOf 0 = .ok (.iload_n 1, 1) := by decide +kernel
theorem dX10_sideOf_1 : decode cX10_sideOf 1 = .ok (.aload_n 0, 1) := by decide +kernel
theorem dX10_sideOf_2 : decode cX10_sideOf 2 = .ok (.getfield 137, 3) := by decide +kernel
theorem dX10_sideOf_5 : decode cX10_sideOf 5 = .ok (.if_icmp .ge 7, 3) := by decide +kernel
theorem dX10_sideOf_8 : decode cX10_sideOf 8 = .ok (.iconst 0, 1) := by decide +kernel
theorem dX10_sideOf_9 : decode cX10_sideOf 9 = .ok (.goto 4, 3) := by decide +kernel
theorem dX10_sideOf_12 : decode cX10_sideOf 12 = .ok (.iconst 1, 1) := by decide +kernel
theorem dX10_sideOf_13 : decode cX10_sideOf 13 = .ok (.ireturn, 1) := by decide +kernel
theorem dX10_areOther_0 : decode cX10_areOther 0 = .ok (.aload_n 0, 1) := by decide +kernel
theorem dX10_areOther_1 : decode cX10_areOther 1 = .ok (.iload_n 1, 1) := by decide +kernel
theorem dX10_areOther_2 : decode cX10_areOther 2 = .ok (.invokevirtual 171, 3) := by decide +kernel
theorem dX10_areOther_5 : decode cX10_areOther 5 = .ok (.aload_n 0, 1) := by decide +kernel
theorem dX10_areOther_6 : decode cX10_areOther 6 = .ok (.iload_n 2, 1) := by decide +kernel
theorem dX10_areOther_7 : decode cX10_areOther 7 = .ok (.invokevirtual 171, 3) := by decide +kernel
theorem dX10_areOther_10 : decode cX10_areOther 10 = .ok (.if_icmp .eq 7, 3) := by decide +kernel
theorem dX10_areOther_13 : decode cX10_areOther 13 = .ok (.iconst 1, 1) := by decide +kernel
theorem dX10_areOther_14 : decode cX10_areOther 14 = .ok (.goto 4, 3) := by decide +kernel
theorem dX10_areOther_17 : decode cX10_areOther 17 = .ok (.iconst 0, 1) := by decide +kernel
theorem dX10_areOther_18 : decode cX10_areOther 18 = .ok (.ireturn, 1) := by decide +kernel
theorem dX10_isFree_0 : decode cX10_isFree 0 = .ok (.aload_n 0, 1) := by decide +kernel
theorem dX10_isFree_1 : decode cX10_isFree 1 = .ok (.getfield 7, 3) := by decide +kernel
theorem dX10_isFree_4 : decode cX10_isFree 4 = .ok (.iload_n 1, 1) := by decide +kernel
theorem dX10_isFree_5 : decode cX10_isFree 5 = .ok (.iaload, 1) := by decide +kernel
theorem dX10_isFree_6 : decode cX10_isFree 6 = .ok (.iconst 4, 1) := by decide +kernel
theorem dX10_isFree_7 : decode cX10_isFree 7 = .ok (.if_icmp .eq 17, 3) := by decide +kernel
theorem dX10_isFree_10 : decode cX10_isFree 10 = .ok (.aload_n 0, 1) := by decide +kernel
theorem dX10_isFree_11 : decode cX10_isFree 11 = .ok (.getfield 34, 3) := by decide +kernel
theorem dX10_isFree_14 : decode cX10_isFree 14 = .ok (.iload_n 1, 1) := by decide +kernel
theorem dX10_isFree_15 : decode cX10_isFree 15 = .ok (.iaload, 1) := by decide +kernel
theorem dX10_isFree_16 : decode cX10_isFree 16 = .ok (.iconst (-1), 1) := by decide +kernel
theorem dX10_isFree_17 : decode cX10_isFree 17 = .ok (.if_icmp .ne 7, 3) := by decide +kernel
theorem dX10_isFree_20 : decode cX10_isFree 20 = .ok (.iconst 1, 1) := by decide +kernel
theorem dX10_isFree_21 : decode cX10_isFree 21 = .ok (.goto 4, 3) := by decide +kernel
theorem dX10_isFree_24 : decode cX10_isFree 24 = .ok (.iconst 0, 1) := by decide +kernel
theorem dX10_isFree_25 : decode cX10_isFree 25 = .ok (.ireturn, 1) := by decide +kernel
theorem dX10_picture_0 : decode cX10_picture 0 = .ok (.aload_n 0, 1) := by decide +kernel
theorem dX10_picture_1 : decode cX10_picture 1 = .ok (.getfield 13, 3) := by decide +kernel
theorem dX10_picture_4 : decode cX10_picture 4 = .ok (.iload_n 1, 1) := by decide +kernel
theorem dX10_picture_5 : decode cX10_picture 5 = .ok (.iaload, 1) := by decide +kernel
theorem dX10_picture_6 : decode cX10_picture 6 = .ok (.aload_n 0, 1) := by decide +kernel
theorem dX10_picture_7 : decode cX10_picture 7 = .ok (.getfield 16, 3) := by decide +kernel
theorem dX10_picture_10 : decode cX10_picture 10 = .ok (.iload_n 1, 1) := by decide +kernel
theorem dX10_picture_11 : decode cX10_picture 11 = .ok (.iaload, 1) := by decide +kernel
theorem dX10_picture_12 : decode cX10_picture 12 = .ok (.iadd, 1) := by decide +kernel
theorem dX10_picture_13 : decode cX10_picture 13 = .ok (.ireturn, 1) := by decide +kernel
theorem dX10_likes_0 : decode cX10_likes 0 = .ok (.aload_n 0, 1) := by decide +kernel
theorem dX10_likes_1 : decode cX10_likes 1 = .ok (.iload_n 1, 1) := by decide +kernel
theorem dX10_likes_2 : decode cX10_likes 2 = .ok (.iload_n 2, 1) := by decide +kernel
theorem dX10_likes_3 : decode cX10_likes 3 = .ok (.invokevirtual 174, 3) := by decide +kernel
theorem dX10_likes_6 : decode cX10_likes 6 = .ok (.ifCond .eq 31, 3) := by decide +kernel
theorem dX10_likes_9 : decode cX10_likes 9 = .ok (.aload_n 0, 1) := by decide +kernel
theorem dX10_likes_10 : decode cX10_likes 10 = .ok (.getfield 7, 3) := by decide +kernel
theorem dX10_likes_13 : decode cX10_likes 13 = .ok (.iload_n 1, 1) := by decide +kernel
theorem dX10_likes_14 : decode cX10_likes 14 = .ok (.iaload, 1) := by decide +kernel
theorem dX10_likes_15 : decode cX10_likes 15 = .ok (.iconst 1, 1) := by decide +kernel
theorem dX10_likes_16 : decode cX10_likes 16 = .ok (.if_icmp .eq 17, 3) := by decide +kernel
theorem dX10_likes_19 : decode cX10_likes 19 = .ok (.aload_n 0, 1) := by decide +kernel
theorem dX10_likes_20 : decode cX10_likes 20 = .ok (.iload_n 2, 1) := by decide +kernel
theorem dX10_likes_21 : decode cX10_likes 21 = .ok (.invokevirtual 177, 3) := by decide +kernel
theorem dX10_likes_24 : decode cX10_likes 24 = .ok (.aload_n 0, 1) := by decide +kernel
theorem dX10_likes_25 : decode cX10_likes 25 = .ok (.getfield 19, 3) := by decide +kernel
theorem dX10_likes_28 : decode cX10_likes 28 = .ok (.iload_n 1, 1) := by decide +kernel
theorem dX10_likes_29 : decode cX10_likes 29 = .ok (.iaload, 1) := by decide +kernel
theorem dX10_likes_30 : decode cX10_likes 30 = .ok (.if_icmp .lt 7, 3) := by decide +kernel
theorem dX10_likes_33 : decode cX10_likes 33 = .ok (.iconst 1, 1) := by decide +kernel
theorem dX10_likes_34 : decode cX10_likes 34 = .ok (.goto 4, 3) := by decide +kernel
theorem dX10_likes_37 : decode cX10_likes 37 = .ok (.iconst 0, 1) := by decide +kernel
theorem dX10_likes_38 : decode cX10_likes 38 = .ok (.ireturn, 1) := by decide +kernel
theorem dX10_likeEachOther_0 : decode cX10_likeEachOther 0 = .ok (.aload_n 0, 1) := by decide +kernel
theorem dX10_likeEachOther_1 : decode cX10_likeEachOther 1 = .ok (.iload_n 1, 1) := by decide +kernel
theorem dX10_likeEachOther_2 : decode cX10_likeEachOther 2 = .ok (.iload_n 2, 1) := by decide +kernel
theorem dX10_likeEachOther_3 : decode cX10_likeEachOther 3 = .ok (.invokevirtual 180, 3) := by decide +kernel
theorem dX10_likeEachOther_6 : decode cX10_likeEachOther 6 = .ok (.ifCond .eq 16, 3) := by decide +kernel
theorem dX10_likeEachOther_9 : decode cX10_likeEachOther 9 = .ok (.aload_n 0, 1) := by decide +kernel
theorem dX10_likeEachOther_10 : decode cX10_likeEachOther 10 = .ok (.iload_n 2, 1) := by decide +kernel
theorem dX10_likeEachOther_11 : decode cX10_likeEachOther 11 = .ok (.iload_n 1, 1) := by decide +kernel
theorem dX10_likeEachOther_12 : decode cX10_likeEachOther 12 = .ok (.invokevirtual 180, 3) := by decide +kernel
theorem dX10_likeEachOther_15 : decode cX10_likeEachOther 15 = .ok (.ifCond .eq 7, 3) := by decide +kernel
theorem dX10_likeEachOther_18 : decode cX10_likeEachOther 18 = .ok (.iconst 1, 1) := by decide +kernel
theorem dX10_likeEachOther_19 : decode cX10_likeEachOther 19 = .ok (.goto 4, 3) := by decide +kernel
theorem dX10_likeEachOther_22 : decode cX10_likeEachOther 22 = .ok (.iconst 0, 1) := by decide +kernel
theorem dX10_likeEachOther_23 : decode cX10_likeEachOther 23 = .ok (.ireturn, 1) := by decide +kernel
theorem dX10_isMatch_0 : decode cX10_isMatch 0 = .ok (.aload_n 0, 1) := by decide +kernel
theorem dX10_isMatch_1 : decode cX10_isMatch 1 = .ok (.getfield 22, 3) := by decide +kernel
theorem dX10_isMatch_4 : decode cX10_isMatch 4 = .ok (.iload_n 1, 1) := by decide +kernel
theorem dX10_isMatch_5 : decode cX10_isMatch 5 = .ok (.iaload, 1) := by decide +kernel
theorem dX10_isMatch_6 : decode cX10_isMatch 6 = .ok (.iload_n 2, 1) := by decide +kernel
theorem dX10_isMatch_7 : decode cX10_isMatch 7 = .ok (.invokestatic 183, 3) := by decide +kernel
theorem dX10_isMatch_10 : decode cX10_isMatch 10 = .ok (.ifCond .eq 20, 3) := by decide +kernel
theorem dX10_isMatch_13 : decode cX10_isMatch 13 = .ok (.aload_n 0, 1) := by decide +kernel
theorem dX10_isMatch_14 : decode cX10_isMatch 14 = .ok (.getfield 22, 3) := by decide +kernel
theorem dX10_isMatch_17 : decode cX10_isMatch 17 = .ok (.iload_n 2, 1) := by decide +kernel
theorem dX10_isMatch_18 : decode cX10_isMatch 18 = .ok (.iaload, 1) := by decide +kernel
theorem dX10_isMatch_19 : decode cX10_isMatch 19 = .ok (.iload_n 1, 1) := by decide +kernel
theorem dX10_isMatch_20 : decode cX10_isMatch 20 = .ok (.invokestatic 183, 3) := by decide +kernel
theorem dX10_isMatch_23 : decode cX10_isMatch 23 = .ok (.ifCond .eq 7, 3) := by decide +kernel
theorem dX10_isMatch_26 : decode cX10_isMatch 26 = .ok (.iconst 1, 1) := by decide +kernel
theorem dX10_isMatch_27 : decode cX10_isMatch 27 = .ok (.goto 4, 3) := by decide +kernel
theorem dX10_isMatch_30 : decode cX10_isMatch 30 = .ok (.iconst 0, 1) := by decide +kernel
theorem dX10_isMatch_31 : decode cX10_isMatch 31 = .ok (.ireturn, 1) := by decide +kernel
theorem dX10_likedBy_0 : decode cX10_likedBy 0 = .ok (.iconst 0, 1) := by decide +kernel
theorem dX10_likedBy_1 : decode cX10_likedBy 1 = .ok (.istore_n 2, 1) := by decide +kernel
theorem dX10_likedBy_2 : decode cX10_likedBy 2 = .ok (.iconst 0, 1) := by decide +kernel
theorem dX10_likedBy_3 : decode cX10_likedBy 3 = .ok (.istore_n 3, 1) := by decide +kernel
theorem dX10_likedBy_4 : decode cX10_likedBy 4 = .ok (.iload_n 3, 1) := by decide +kernel
theorem dX10_likedBy_5 : decode cX10_likedBy 5 = .ok (.aload_n 0, 1) := by decide +kernel
theorem dX10_likedBy_6 : decode cX10_likedBy 6 = .ok (.getfield 140, 3) := by decide +kernel
theorem dX10_likedBy_9 : decode cX10_likedBy 9 = .ok (.if_icmp .ge 28, 3) := by decide +kernel
theorem dX10_likedBy_12 : decode cX10_likedBy 12 = .ok (.iload_n 2, 1) := by decide +kernel
theorem dX10_likedBy_13 : decode cX10_likedBy 13 = .ok (.aload_n 0, 1) := by decide +kernel
theorem dX10_likedBy_14 : decode cX10_likedBy 14 = .ok (.iload_n 1, 1) := by decide +kernel
theorem dX10_likedBy_15 : decode cX10_likedBy 15 = .ok (.iload_n 3, 1) := by decide +kernel
theorem dX10_likedBy_16 : decode cX10_likedBy 16 = .ok (.invokevirtual 180, 3) := by decide +kernel
theorem dX10_likedBy_19 : decode cX10_likedBy 19 = .ok (.ifCond .eq 9, 3) := by decide +kernel
theorem dX10_likedBy_22 : decode cX10_likedBy 22 = .ok (.iconst 1, 1) := by decide +kernel
theorem dX10_likedBy_23 : decode cX10_likedBy 23 = .ok (.iload_n 3, 1) := by decide +kernel
theorem dX10_likedBy_24 : decode cX10_likedBy 24 = .ok (.ishl, 1) := by decide +kernel
theorem dX10_likedBy_25 : decode cX10_likedBy 25 = .ok (.goto 4, 3) := by decide +kernel
theorem dX10_likedBy_28 : decode cX10_likedBy 28 = .ok (.iconst 0, 1) := by decide +kernel
theorem dX10_likedBy_29 : decode cX10_likedBy 29 = .ok (.ior, 1) := by decide +kernel
theorem dX10_likedBy_30 : decode cX10_likedBy 30 = .ok (.istore_n 2, 1) := by decide +kernel
theorem dX10_likedBy_31 : decode cX10_likedBy 31 = .ok (.iinc 3 1, 3) := by decide +kernel
theorem dX10_likedBy_34 : decode cX10_likedBy 34 = .ok (.goto (-30), 3) := by decide +kernel
theorem dX10_likedBy_37 : decode cX10_likedBy 37 = .ok (.iload_n 2, 1) := by decide +kernel
theorem dX10_likedBy_38 : decode cX10_likedBy 38 = .ok (.ireturn, 1) := by decide +kernel
theorem dX10_matchedWith_0 : decode cX10_matchedWith 0 = .ok (.iconst 0, 1) := by decide +kernel
theorem dX10_matchedWith_1 : decode cX10_matchedWith 1 = .ok (.istore_n 2, 1) := by decide +kernel
theorem dX10_matchedWith_2 : decode cX10_matchedWith 2 = .ok (.iconst 0, 1) := by decide +kernel
theorem dX10_matchedWith_3 : decode cX10_matchedWith 3 = .ok (.istore_n 3, 1) := by decide +kernel
theorem dX10_matchedWith_4 : decode cX10_matchedWith 4 = .ok (.iload_n 3, 1) := by decide +kernel
theorem dX10_matchedWith_5 : decode cX10_matchedWith 5 = .ok (.aload_n 0, 1) := by decide +kernel
theorem dX10_matchedWith_6 : decode cX10_matchedWith 6 = .ok (.getfield 140, 3) := by decide +kernel
theorem dX10_matchedWith_9 : decode cX10_matchedWith 9 = .ok (.if_icmp .ge 28, 3) := by decide +kernel
theorem dX10_matchedWith_12 : decode cX10_matchedWith 12 = .ok (.iload_n 2, 1) := by decide +kernel
theorem dX10_matchedWith_13 : decode cX10_matchedWith 13 = .ok (.aload_n 0, 1) := by decide +kernel
theorem dX10_matchedWith_14 : decode cX10_matchedWith 14 = .ok (.iload_n 1, 1) := by decide +kernel
theorem dX10_matchedWith_15 : decode cX10_matchedWith 15 = .ok (.iload_n 3, 1) := by decide +kernel
theorem dX10_matchedWith_16 : decode cX10_matchedWith 16 = .ok (.invokevirtual 186, 3) := by decide +kernel
theorem dX10_matchedWith_19 : decode cX10_matchedWith 19 = .ok (.ifCond .eq 9, 3) := by decide +kernel
theorem dX10_matchedWith_22 : decode cX10_matchedWith 22 = .ok (.iconst 1, 1) := by decide +kernel
theorem dX10_matchedWith_23 : decode cX10_matchedWith 23 = .ok (.iload_n 3, 1) := by decide +kernel
theorem dX10_matchedWith_24 : decode cX10_matchedWith 24 = .ok (.ishl, 1) := by decide +kernel
theorem dX10_matchedWith_25 : decode cX10_matchedWith 25 = .ok (.goto 4, 3) := by decide +kernel
theorem dX10_matchedWith_28 : decode cX10_matchedWith 28 = .ok (.iconst 0, 1) := by decide +kernel
theorem dX10_matchedWith_29 : decode cX10_matchedWith 29 = .ok (.ior, 1) := by decide +kernel
theorem dX10_matchedWith_30 : decode cX10_matchedWith 30 = .ok (.istore_n 2, 1) := by decide +kernel
theorem dX10_matchedWith_31 : decode cX10_matchedWith 31 = .ok (.iinc 3 1, 3) := by decide +kernel
theorem dX10_matchedWith_34 : decode cX10_matchedWith 34 = .ok (.goto (-30), 3) := by decide +kernel
theorem dX10_matchedWith_37 : decode cX10_matchedWith 37 = .ok (.iload_n 2, 1) := by decide +kernel
theorem dX10_matchedWith_38 : decode cX10_matchedWith 38 = .ok (.ireturn, 1) := by decide +kernel
theorem dX10_personNow_0 : decode cX10_personNow 0 = .ok (.iload_n 2, 1) := by decide +kernel
theorem dX10_personNow_1 : decode cX10_personNow 1 = .ok (.tableswitch 188 0 13 #[71, 78, 85, 92, 99, 105, 135, 142, 148, 155, 162, 168, 175, 182], 71) := by decide +kernel
theorem dX10_personNow_72 : decode cX10_personNow 72 = .ok (.aload_n 0, 1) := by decide +kernel
theorem dX10_personNow_73 : decode cX10_personNow 73 = .ok (.getfield 7, 3) := by decide +kernel
theorem dX10_personNow_76 : decode cX10_personNow 76 = .ok (.iload_n 1, 1) := by decide +kernel
theorem dX10_personNow_77 : decode cX10_personNow 77 = .ok (.iaload, 1) := by decide +kernel
theorem dX10_personNow_78 : decode cX10_personNow 78 = .ok (.ireturn, 1) := by decide +kernel
theorem dX10_personNow_79 : decode cX10_personNow 79 = .ok (.aload_n 0, 1) := by decide +kernel
theorem dX10_personNow_80 : decode cX10_personNow 80 = .ok (.getfield 13, 3) := by decide +kernel
theorem dX10_personNow_83 : decode cX10_personNow 83 = .ok (.iload_n 1, 1) := by decide +kernel
theorem dX10_personNow_84 : decode cX10_personNow 84 = .ok (.iaload, 1) := by decide +kernel
theorem dX10_personNow_85 : decode cX10_personNow 85 = .ok (.ireturn, 1) := by decide +kernel
theorem dX10_personNow_86 : decode cX10_personNow 86 = .ok (.aload_n 0, 1) := by decide +kernel
theorem dX10_personNow_87 : decode cX10_personNow 87 = .ok (.getfield 16, 3) := by decide +kernel
theorem dX10_personNow_90 : decode cX10_personNow 90 = .ok (.iload_n 1, 1) := by decide +kernel
theorem dX10_personNow_91 : decode cX10_personNow 91 = .ok (.iaload, 1) := by decide +kernel
theorem dX10_personNow_92 : decode cX10_personNow 92 = .ok (.ireturn, 1) := by decide +kernel
theorem dX10_personNow_93 : decode cX10_personNow 93 = .ok (.aload_n 0, 1) := by decide +kernel
theorem dX10_personNow_94 : decode cX10_personNow 94 = .ok (.getfield 19, 3) := by decide +kernel
theorem dX10_personNow_97 : decode cX10_personNow 97 = .ok (.iload_n 1, 1) := by decide +kernel
theorem dX10_personNow_98 : decode cX10_personNow 98 = .ok (.iaload, 1) := by decide +kernel
theorem dX10_personNow_99 : decode cX10_personNow 99 = .ok (.ireturn, 1) := by decide +kernel
theorem dX10_personNow_100 : decode cX10_personNow 100 = .ok (.aload_n 0, 1) := by decide +kernel
theorem dX10_personNow_101 : decode cX10_personNow 101 = .ok (.iload_n 1, 1) := by decide +kernel
theorem dX10_personNow_102 : decode cX10_personNow 102 = .ok (.invokevirtual 171, 3) := by decide +kernel
theorem dX10_personNow_105 : decode cX10_personNow 105 = .ok (.ireturn, 1) := by decide +kernel
theorem dX10_personNow_106 : decode cX10_personNow 106 = .ok (.aload_n 0, 1) := by decide +kernel
theorem dX10_personNow_107 : decode cX10_personNow 107 = .ok (.getfield 7, 3) := by decide +kernel
theorem dX10_personNow_110 : decode cX10_personNow 110 = .ok (.iload_n 1, 1) := by decide +kernel
theorem dX10_personNow_111 : decode cX10_personNow 111 = .ok (.iaload, 1) := by decide +kernel
theorem dX10_personNow_112 : decode cX10_personNow 112 = .ok (.iconst 4, 1) := by decide +kernel
theorem dX10_personNow_113 : decode cX10_personNow 113 = .ok (.if_icmp .ne 7, 3) := by decide +kernel
theorem dX10_personNow_116 : decode cX10_personNow 116 = .ok (.iconst 2, 1) := by decide +kernel
theorem dX10_personNow_117 : decode cX10_personNow 117 = .ok (.goto 18, 3) := by decide +kernel
theorem dX10_personNow_120 : decode cX10_personNow 120 = .ok (.aload_n 0, 1) := by decide +kernel
theorem dX10_personNow_121 : decode cX10_personNow 121 = .ok (.getfield 34, 3) := by decide +kernel
theorem dX10_personNow_124 : decode cX10_personNow 124 = .ok (.iload_n 1, 1) := by decide +kernel
theorem dX10_personNow_125 : decode cX10_personNow 125 = .ok (.iaload, 1) := by decide +kernel
theorem dX10_personNow_126 : decode cX10_personNow 126 = .ok (.iconst (-1), 1) := by decide +kernel
theorem dX10_personNow_127 : decode cX10_personNow 127 = .ok (.if_icmp .ne 7, 3) := by decide +kernel
theorem dX10_personNow_130 : decode cX10_personNow 130 = .ok (.iconst 0, 1) := by decide +kernel
theorem dX10_personNow_131 : decode cX10_personNow 131 = .ok (.goto 4, 3) := by decide +kernel
theorem dX10_personNow_134 : decode cX10_personNow 134 = .ok (.iconst 1, 1) := by decide +kernel
theorem dX10_personNow_135 : decode cX10_personNow 135 = .ok (.ireturn, 1) := by decide +kernel
theorem dX10_personNow_136 : decode cX10_personNow 136 = .ok (.aload_n 0, 1) := by decide +kernel
theorem dX10_personNow_137 : decode cX10_personNow 137 = .ok (.getfield 34, 3) := by decide +kernel
theorem dX10_personNow_140 : decode cX10_personNow 140 = .ok (.iload_n 1, 1) := by decide +kernel
theorem dX10_personNow_141 : decode cX10_personNow 141 = .ok (.iaload, 1) := by decide +kernel
theorem dX10_personNow_142 : decode cX10_personNow 142 = .ok (.ireturn, 1) := by decide +kernel
theorem dX10_personNow_143 : decode cX10_personNow 143 = .ok (.aload_n 0, 1) := by decide +kernel
theorem dX10_personNow_144 : decode cX10_personNow 144 = .ok (.iload_n 1, 1) := by decide +kernel
theorem dX10_personNow_145 : decode cX10_personNow 145 = .ok (.invokevirtual 189, 3) := by decide +kernel
theorem dX10_personNow_148 : decode cX10_personNow 148 = .ok (.ireturn, 1) := by decide +kernel
theorem dX10_personNow_149 : decode cX10_personNow 149 = .ok (.aload_n 0, 1) := by decide +kernel
theorem dX10_personNow_150 : decode cX10_personNow 150 = .ok (.getfield 22, 3) := by decide +kernel
theorem dX10_personNow_153 : decode cX10_personNow 153 = .ok (.iload_n 1, 1) := by decide +kernel
theorem dX10_personNow_154 : decode cX10_personNow 154 = .ok (.iaload, 1) := by decide +kernel
theorem dX10_personNow_155 : decode cX10_personNow 155 = .ok (.ireturn, 1) := by decide +kernel
theorem dX10_personNow_156 : decode cX10_personNow 156 = .ok (.aload_n 0, 1) := by decide +kernel
theorem dX10_personNow_157 : decode cX10_personNow 157 = .ok (.getfield 25, 3) := by decide +kernel
theorem dX10_personNow_160 : decode cX10_personNow 160 = .ok (.iload_n 1, 1) := by decide +kernel
theorem dX10_personNow_161 : decode cX10_personNow 161 = .ok (.iaload, 1) := by decide +kernel
theorem dX10_personNow_162 : decode cX10_personNow 162 = .ok (.ireturn, 1) := by decide +kernel
theorem dX10_personNow_163 : decode cX10_personNow 163 = .ok (.aload_n 0, 1) := by decide +kernel
theorem dX10_personNow_164 : decode cX10_personNow 164 = .ok (.iload_n 1, 1) := by decide +kernel
theorem dX10_personNow_165 : decode cX10_personNow 165 = .ok (.invokevirtual 192, 3) := by decide +kernel
theorem dX10_personNow_168 : decode cX10_personNow 168 = .ok (.ireturn, 1) := by decide +kernel
theorem dX10_personNow_169 : decode cX10_personNow 169 = .ok (.aload_n 0, 1) := by decide +kernel
theorem dX10_personNow_170 : decode cX10_personNow 170 = .ok (.getfield 28, 3) := by decide +kernel
theorem dX10_personNow_173 : decode cX10_personNow 173 = .ok (.iload_n 1, 1) := by decide +kernel
theorem dX10_personNow_174 : decode cX10_personNow 174 = .ok (.iaload, 1) := by decide +kernel
theorem dX10_personNow_175 : decode cX10_personNow 175 = .ok (.ireturn, 1) := by decide +kernel
theorem dX10_personNow_176 : decode cX10_personNow 176 = .ok (.aload_n 0, 1) := by decide +kernel
theorem dX10_personNow_177 : decode cX10_personNow 177 = .ok (.getfield 31, 3) := by decide +kernel
theorem dX10_personNow_180 : decode cX10_personNow 180 = .ok (.iload_n 1, 1) := by decide +kernel
theorem dX10_personNow_181 : decode cX10_personNow 181 = .ok (.iaload, 1) := by decide +kernel
theorem dX10_personNow_182 : decode cX10_personNow 182 = .ok (.ireturn, 1) := by decide +kernel
theorem dX10_personNow_183 : decode cX10_personNow 183 = .ok (.aload_n 0, 1) := by decide +kernel
theorem dX10_personNow_184 : decode cX10_personNow 184 = .ok (.iload_n 1, 1) := by decide +kernel
theorem dX10_personNow_185 : decode cX10_personNow 185 = .ok (.invokevirtual 195, 3) := by decide +kernel
theorem dX10_personNow_188 : decode cX10_personNow 188 = .ok (.ireturn, 1) := by decide +kernel
theorem dX10_personNow_189 : decode cX10_personNow 189 = .ok (.aload_n 0, 1) := by decide +kernel
theorem dX10_personNow_190 : decode cX10_personNow 190 = .ok (.iload_n 1, 1) := by decide +kernel
theorem dX10_personNow_191 : decode cX10_personNow 191 = .ok (.invokevirtual 198, 3) := by decide +kernel
theorem dX10_personNow_194 : decode cX10_personNow 194 = .ok (.ireturn, 1) := by decide +kernel
theorem dX10_person_0 : decode cX10_person 0 = .ok (.aload_n 0, 1) := by decide +kernel
theorem dX10_person_1 : decode cX10_person 1 = .ok (.iload_n 1, 1) := by decide +kernel
theorem dX10_person_2 : decode cX10_person 2 = .ok (.invokevirtual 167, 3) := by decide +kernel
theorem dX10_person_5 : decode cX10_person 5 = .ok (.ifCond .ne 8, 3) := by decide +kernel
theorem dX10_person_8 : decode cX10_person 8 = .ok (.bipush (-101), 2) := by decide +kernel
theorem dX10_person_10 : decode cX10_person 10 = .ok (.goto 24, 3) := by decide +kernel
theorem dX10_person_13 : decode cX10_person 13 = .ok (.iload_n 2, 1) := by decide +kernel
theorem dX10_person_14 : decode cX10_person 14 = .ok (.iconst 0, 1) := by decide +kernel
theorem dX10_person_15 : decode cX10_person 15 = .ok (.bipush 14, 2) := by decide +kernel
theorem dX10_person_17 : decode cX10_person 17 = .ok (.invokestatic 98, 3) := by decide +kernel
theorem dX10_person_20 : decode cX10_person 20 = .ok (.ifCond .eq 12, 3) := by decide +kernel
theorem dX10_person_23 : decode cX10_person 23 = .ok (.aload_n 0, 1) := by decide +kernel
theorem dX10_person_24 : decode cX10_person 24 = .ok (.iload_n 1, 1) := by decide +kernel
theorem dX10_person_25 : decode cX10_person 25 = .ok (.iload_n 2, 1) := by decide +kernel
theorem dX10_person_26 : decode cX10_person 26 = .ok (.invokevirtual 201, 3) := by decide +kernel
theorem dX10_person_29 : decode cX10_person 29 = .ok (.goto 5, 3) := by decide +kernel
theorem dX10_person_32 : decode cX10_person 32 = .ok (.bipush (-102), 2) := by decide +kernel
theorem dX10_person_34 : decode cX10_person 34 = .ok (.ireturn, 1) := by decide +kernel
theorem dX10_as_0 : decode cX10_as 0 = .ok (.aload_n 0, 1) := by decide +kernel
theorem dX10_as_1 : decode cX10_as 1 = .ok (.iload_n 1, 1) := by decide +kernel
theorem dX10_as_2 : decode cX10_as 2 = .ok (.invokevirtual 167, 3) := by decide +kernel
theorem dX10_as_5 : decode cX10_as 5 = .ok (.ifCond .ne 6, 3) := by decide +kernel
theorem dX10_as_8 : decode cX10_as 8 = .ok (.bipush (-101), 2) := by decide +kernel
theorem dX10_as_10 : decode cX10_as 10 = .ok (.ireturn, 1) := by decide +kernel
theorem dX10_as_11 : decode cX10_as 11 = .ok (.iload_n 2, 1) := by decide +kernel
theorem dX10_as_12 : decode cX10_as 12 = .ok (.iconst 0, 1) := by decide +kernel
theorem dX10_as_13 : decode cX10_as 13 = .ok (.iconst 4, 1) := by decide +kernel
theorem dX10_as_14 : decode cX10_as 14 = .ok (.invokestatic 98, 3) := by decide +kernel
theorem dX10_as_17 : decode cX10_as 17 = .ok (.ifCond .ne 6, 3) := by decide +kernel
theorem dX10_as_20 : decode cX10_as 20 = .ok (.bipush (-102), 2) := by decide +kernel
theorem dX10_as_22 : decode cX10_as 22 = .ok (.ireturn, 1) := by decide +kernel
theorem dX10_as_23 : decode cX10_as 23 = .ok (.aload_n 0, 1) := by decide +kernel
theorem dX10_as_24 : decode cX10_as 24 = .ok (.getfield 7, 3) := by decide +kernel
theorem dX10_as_27 : decode cX10_as 27 = .ok (.iload_n 1, 1) := by decide +kernel
theorem dX10_as_28 : decode cX10_as 28 = .ok (.iaload, 1) := by decide +kernel
theorem dX10_as_29 : decode cX10_as 29 = .ok (.istore_n 3, 1) := by decide +kernel
theorem dX10_as_30 : decode cX10_as 30 = .ok (.iload_n 2, 1) := by decide +kernel
theorem dX10_as_31 : decode cX10_as 31 = .ok (.ifCond .eq 18, 3) := by decide +kernel
theorem dX10_as_34 : decode cX10_as 34 = .ok (.iload_n 3, 1) := by decide +kernel
theorem dX10_as_35 : decode cX10_as 35 = .ok (.iload_n 2, 1) := by decide +kernel
theorem dX10_as_36 : decode cX10_as 36 = .ok (.if_icmp .eq 13, 3) := by decide +kernel
theorem dX10_as_39 : decode cX10_as 39 = .ok (.iload_n 2, 1) := by decide +kernel
theorem dX10_as_40 : decode cX10_as 40 = .ok (.iconst 3, 1) := by decide +kernel
theorem dX10_as_41 : decode cX10_as 41 = .ok (.if_icmp .ne 12, 3) := by decide +kernel
theorem dX10_as_44 : decode cX10_as 44 = .ok (.iload_n 3, 1) := by decide +kernel
theorem dX10_as_45 : decode cX10_as 45 = .ok (.iconst 4, 1) := by decide +kernel
theorem dX10_as_46 : decode cX10_as 46 = .ok (.if_icmp .ne 7, 3) := by decide +kernel
theorem dX10_as_49 : decode cX10_as 49 = .ok (.iload_n 1, 1) := by decide +kernel
theorem dX10_as_50 : decode cX10_as 50 = .ok (.goto 4, 3) := by decide +kernel
theorem dX10_as_53 : decode cX10_as 53 = .ok (.iconst (-1), 1) := by decide +kernel
theorem dX10_as_54 : decode cX10_as 54 = .ok (.ireturn, 1) := by decide +kernel
theorem dX10_choose_0 : decode cX10_choose 0 = .ok (.aload_n 0, 1) := by decide +kernel
theorem dX10_choose_1 : decode cX10_choose 1 = .ok (.iload_n 1, 1) := by decide +kernel
theorem dX10_choose_2 : decode cX10_choose 2 = .ok (.invokevirtual 167, 3) := by decide +kernel
theorem dX10_choose_5 : decode cX10_choose 5 = .ok (.ifCond .ne 6, 3) := by decide +kernel
theorem dX10_choose_8 : decode cX10_choose 8 = .ok (.bipush (-101), 2) := by decide +kernel
theorem dX10_choose_10 : decode cX10_choose 10 = .ok (.ireturn, 1) := by decide +kernel
theorem dX10_choose_11 : decode cX10_choose 11 = .ok (.iload_n 2, 1) := by decide +kernel
theorem dX10_choose_12 : decode cX10_choose 12 = .ok (.iconst 0, 1) := by decide +kernel
theorem dX10_choose_13 : decode cX10_choose 13 = .ok (.bipush 9, 2) := by decide +kernel
theorem dX10_choose_15 : decode cX10_choose 15 = .ok (.invokestatic 98, 3) := by decide +kernel
theorem dX10_choose_18 : decode cX10_choose 18 = .ok (.ifCond .ne 6, 3) := by decide +kernel
theorem dX10_choose_21 : decode cX10_choose 21 = .ok (.bipush (-102), 2) := by decide +kernel
theorem dX10_choose_23 : decode cX10_choose 23 = .ok (.ireturn, 1) := by decide +kernel
theorem dX10_choose_24 : decode cX10_choose 24 = .ok (.aload_n 0, 1) := by decide +kernel
theorem dX10_choose_25 : decode cX10_choose 25 = .ok (.getfield 19, 3) := by decide +kernel
theorem dX10_choose_28 : decode cX10_choose 28 = .ok (.iload_n 1, 1) := by decide +kernel
theorem dX10_choose_29 : decode cX10_choose 29 = .ok (.iaload, 1) := by decide +kernel
theorem dX10_choose_30 : decode cX10_choose 30 = .ok (.istore_n 3, 1) := by decide +kernel
theorem dX10_choose_31 : decode cX10_choose 31 = .ok (.aload_n 0, 1) := by decide +kernel
theorem dX10_choose_32 : decode cX10_choose 32 = .ok (.getfield 19, 3) := by decide +kernel
theorem dX10_choose_35 : decode cX10_choose 35 = .ok (.iload_n 1, 1) := by decide +kernel
theorem dX10_choose_36 : decode cX10_choose 36 = .ok (.iload_n 2, 1) := by decide +kernel
theorem dX10_choose_37 : decode cX10_choose 37 = .ok (.iastore, 1) := by decide +kernel
theorem dX10_choose_38 : decode cX10_choose 38 = .ok (.iload_n 3, 1) := by decide +kernel
theorem dX10_choose_39 : decode cX10_choose 39 = .ok (.ireturn, 1) := by decide +kernel
theorem dX10_paint_0 : decode cX10_paint 0 = .ok (.aload_n 0, 1) := by decide +kernel
theorem dX10_paint_1 : decode cX10_paint 1 = .ok (.iload_n 1, 1) := by decide +kernel
theorem dX10_paint_2 : decode cX10_paint 2 = .ok (.invokevirtual 167, 3) := by decide +kernel
theorem dX10_paint_5 : decode cX10_paint 5 = .ok (.ifCond .ne 6, 3) := by decide +kernel
theorem dX10_paint_8 : decode cX10_paint 8 = .ok (.bipush (-101), 2) := by decide +kernel
theorem dX10_paint_10 : decode cX10_paint 10 = .ok (.ireturn, 1) := by decide +kernel
theorem dX10_paint_11 : decode cX10_paint 11 = .ok (.iload_n 2, 1) := by decide +kernel
theorem dX10_paint_12 : decode cX10_paint 12 = .ok (.iconst 0, 1) := by decide +kernel
theorem dX10_paint_13 : decode cX10_paint 13 = .ok (.iconst 3, 1) := by decide +kernel
theorem dX10_paint_14 : decode cX10_paint 14 = .ok (.invokestatic 98, 3) := by decide +kernel
theorem dX10_paint_17 : decode cX10_paint 17 = .ok (.ifCond .ne 6, 3) := by decide +kernel
theorem dX10_paint_20 : decode cX10_paint 20 = .ok (.bipush (-102), 2) := by decide +kernel
theorem dX10_paint_22 : decode cX10_paint 22 = .ok (.ireturn, 1) := by decide +kernel
theorem dX10_paint_23 : decode cX10_paint 23 = .ok (.aload_n 0, 1) := by decide +kernel
theorem dX10_paint_24 : decode cX10_paint 24 = .ok (.getfield 16, 3) := by decide +kernel
theorem dX10_paint_27 : decode cX10_paint 27 = .ok (.iload_n 1, 1) := by decide +kernel
theorem dX10_paint_28 : decode cX10_paint 28 = .ok (.iaload, 1) := by decide +kernel
theorem dX10_paint_29 : decode cX10_paint 29 = .ok (.istore_n 3, 1) := by decide +kernel
theorem dX10_paint_30 : decode cX10_paint 30 = .ok (.aload_n 0, 1) := by decide +kernel
theorem dX10_paint_31 : decode cX10_paint 31 = .ok (.getfield 16, 3) := by decide +kernel
theorem dX10_paint_34 : decode cX10_paint 34 = .ok (.iload_n 1, 1) := by decide +kernel
theorem dX10_paint_35 : decode cX10_paint 35 = .ok (.iload_n 2, 1) := by decide +kernel
theorem dX10_paint_36 : decode cX10_paint 36 = .ok (.iastore, 1) := by decide +kernel
theorem dX10_paint_37 : decode cX10_paint 37 = .ok (.iload_n 3, 1) := by decide +kernel
theorem dX10_paint_38 : decode cX10_paint 38 = .ok (.ireturn, 1) := by decide +kernel
theorem dX10_limit_0 : decode cX10_limit 0 = .ok (.iload_n 1, 1) := by decide +kernel
theorem dX10_limit_1 : decode cX10_limit 1 = .ok (.iconst 1, 1) := by decide +kernel
theorem dX10_limit_2 : decode cX10_limit 2 = .ok (.bipush 9, 2) := by decide +kernel
theorem dX10_limit_4 : decode cX10_limit 4 = .ok (.invokestatic 98, 3) := by decide +kernel
theorem dX10_limit_7 : decode cX10_limit 7 = .ok (.ifCond .ne 6, 3) := by decide +kernel
theorem dX10_limit_10 : decode cX10_limit 10 = .ok (.bipush (-102), 2) := by decide +kernel
theorem dX10_limit_12 : decode cX10_limit 12 = .ok (.ireturn, 1) := by decide +kernel
theorem dX10_limit_13 : decode cX10_limit 13 = .ok (.aload_n 0, 1) := by decide +kernel
theorem dX10_limit_14 : decode cX10_limit 14 = .ok (.getfield 140, 3) := by decide +kernel
theorem dX10_limit_17 : decode cX10_limit 17 = .ok (.ifCond .ne 6, 3) := by decide +kernel
theorem dX10_limit_20 : decode cX10_limit 20 = .ok (.bipush (-103), 2) := by decide +kernel
theorem dX10_limit_22 : decode cX10_limit 22 = .ok (.ireturn, 1) := by decide +kernel
theorem dX10_limit_23 : decode cX10_limit 23 = .ok (.aload_n 0, 1) := by decide +kernel
theorem dX10_limit_24 : decode cX10_limit 24 = .ok (.getfield 143, 3) := by decide +kernel
theorem dX10_limit_27 : decode cX10_limit 27 = .ok (.istore_n 2, 1) := by decide +kernel
theorem dX10_limit_28 : decode cX10_limit 28 = .ok (.aload_n 0, 1) := by decide +kernel
theorem dX10_limit_29 : decode cX10_limit 29 = .ok (.iload_n 1, 1) := by decide +kernel
theorem dX10_limit_30 : decode cX10_limit 30 = .ok (.putfield 143, 3) := by decide +kernel
theorem dX10_limit_33 : decode cX10_limit 33 = .ok (.iload_n 2, 1) := by decide +kernel
theorem dX10_limit_34 : decode cX10_limit 34 = .ok (.ireturn, 1) := by decide +kernel
theorem dX10_goesRight_0 : decode cX10_goesRight 0 = .ok (.aload_n 0, 1) := by decide +kernel
theorem dX10_goesRight_1 : decode cX10_goesRight 1 = .ok (.iload_n 1, 1) := by decide +kernel
theorem dX10_goesRight_2 : decode cX10_goesRight 2 = .ok (.iload_n 2, 1) := by decide +kernel
theorem dX10_goesRight_3 : decode cX10_goesRight 3 = .ok (.invokevirtual 180, 3) := by decide +kernel
theorem dX10_goesRight_6 : decode cX10_goesRight 6 = .ok (.ifCond .eq 20, 3) := by decide +kernel
theorem dX10_goesRight_9 : decode cX10_goesRight 9 = .ok (.aload_n 0, 1) := by decide +kernel
theorem dX10_goesRight_10 : decode cX10_goesRight 10 = .ok (.getfield 31, 3) := by decide +kernel
theorem dX10_goesRight_13 : decode cX10_goesRight 13 = .ok (.iload_n 1, 1) := by decide +kernel
theorem dX10_goesRight_14 : decode cX10_goesRight 14 = .ok (.iaload, 1) := by decide +kernel
theorem dX10_goesRight_15 : decode cX10_goesRight 15 = .ok (.aload_n 0, 1) := by decide +kernel
theorem dX10_goesRight_16 : decode cX10_goesRight 16 = .ok (.getfield 143, 3) := by decide +kernel
theorem dX10_goesRight_19 : decode cX10_goesRight 19 = .ok (.if_icmp .ge 7, 3) := by decide +kernel
theorem dX10_goesRight_22 : decode cX10_goesRight 22 = .ok (.iconst 1, 1) := by decide +kernel
theorem dX10_goesRight_23 : decode cX10_goesRight 23 = .ok (.goto 4, 3) := by decide +kernel
theorem dX10_goesRight_26 : decode cX10_goesRight 26 = .ok (.iconst 0, 1) := by decide +kernel
theorem dX10_goesRight_27 : decode cX10_goesRight 27 = .ok (.istore_n 3, 1) := by decide +kernel
theorem dX10_goesRight_28 : decode cX10_goesRight 28 = .ok (.iload_n 3, 1) := by decide +kernel
theorem dX10_goesRight_29 : decode cX10_goesRight 29 = .ok (.ifCond .eq 29, 3) := by decide +kernel
theorem dX10_goesRight_32 : decode cX10_goesRight 32 = .ok (.aload_n 0, 1) := by decide +kernel
theorem dX10_goesRight_33 : decode cX10_goesRight 33 = .ok (.getfield 7, 3) := by decide +kernel
theorem dX10_goesRight_36 : decode cX10_goesRight 36 = .ok (.iload_n 1, 1) := by decide +kernel
theorem dX10_goesRight_37 : decode cX10_goesRight 37 = .ok (.iaload, 1) := by decide +kernel
theorem dX10_goesRight_38 : decode cX10_goesRight 38 = .ok (.iconst 2, 1) := by decide +kernel
theorem dX10_goesRight_39 : decode cX10_goesRight 39 = .ok (.if_icmp .ne 15, 3) := by decide +kernel
theorem dX10_goesRight_42 : decode cX10_goesRight 42 = .ok (.aload_n 0, 1) := by decide +kernel
theorem dX10_goesRight_43 : decode cX10_goesRight 43 = .ok (.getfield 28, 3) := by decide +kernel
theorem dX10_goesRight_46 : decode cX10_goesRight 46 = .ok (.iload_n 1, 1) := by decide +kernel
theorem dX10_goesRight_47 : decode cX10_goesRight 47 = .ok (.iaload, 1) := by decide +kernel
theorem dX10_goesRight_48 : decode cX10_goesRight 48 = .ok (.iconst 3, 1) := by decide +kernel
theorem dX10_goesRight_49 : decode cX10_goesRight 49 = .ok (.irem, 1) := by decide +kernel
theorem dX10_goesRight_50 : decode cX10_goesRight 50 = .ok (.iconst 2, 1) := by decide +kernel
theorem dX10_goesRight_51 : decode cX10_goesRight 51 = .ok (.if_icmp .eq 7, 3) := by decide +kernel
theorem dX10_goesRight_54 : decode cX10_goesRight 54 = .ok (.iconst 1, 1) := by decide +kernel
theorem dX10_goesRight_55 : decode cX10_goesRight 55 = .ok (.goto 4, 3) := by decide +kernel
theorem dX10_goesRight_58 : decode cX10_goesRight 58 = .ok (.iconst 0, 1) := by decide +kernel
theorem dX10_goesRight_59 : decode cX10_goesRight 59 = .ok (.istore_n 3, 1) := by decide +kernel
theorem dX10_goesRight_60 : decode cX10_goesRight 60 = .ok (.iload_n 3, 1) := by decide +kernel
theorem dX10_goesRight_61 : decode cX10_goesRight 61 = .ok (.ifCond .eq 40, 3) := by decide +kernel
theorem dX10_goesRight_64 : decode cX10_goesRight 64 = .ok (.aload_n 0, 1) := by decide +kernel
theorem dX10_goesRight_65 : decode cX10_goesRight 65 = .ok (.getfield 7, 3) := by decide +kernel
theorem dX10_goesRight_68 : decode cX10_goesRight 68 = .ok (.iload_n 1, 1) := by decide +kernel
theorem dX10_goesRight_69 : decode cX10_goesRight 69 = .ok (.iaload, 1) := by decide +kernel
theorem dX10_goesRight_70 : decode cX10_goesRight 70 = .ok (.iconst 3, 1) := by decide +kernel
theorem dX10_goesRight_71 : decode cX10_goesRight 71 = .ok (.if_icmp .eq 13, 3) := by decide +kernel
theorem dX10_goesRight_74 : decode cX10_goesRight 74 = .ok (.aload_n 0, 1) := by decide +kernel
theorem dX10_goesRight_75 : decode cX10_goesRight 75 = .ok (.getfield 7, 3) := by decide +kernel
theorem dX10_goesRight_78 : decode cX10_goesRight 78 = .ok (.iload_n 1, 1) := by decide +kernel
theorem dX10_goesRight_79 : decode cX10_goesRight 79 = .ok (.iaload, 1) := by decide +kernel
theorem dX10_goesRight_80 : decode cX10_goesRight 80 = .ok (.iconst 4, 1) := by decide +kernel
theorem dX10_goesRight_81 : decode cX10_goesRight 81 = .ok (.if_icmp .ne 16, 3) := by decide +kernel
theorem dX10_goesRight_84 : decode cX10_goesRight 84 = .ok (.aload_n 0, 1) := by decide +kernel
theorem dX10_goesRight_85 : decode cX10_goesRight 85 = .ok (.getfield 22, 3) := by decide +kernel
theorem dX10_goesRight_88 : decode cX10_goesRight 88 = .ok (.iload_n 2, 1) := by decide +kernel
theorem dX10_goesRight_89 : decode cX10_goesRight 89 = .ok (.iaload, 1) := by decide +kernel
theorem dX10_goesRight_90 : decode cX10_goesRight 90 = .ok (.iload_n 1, 1) := by decide +kernel
theorem dX10_goesRight_91 : decode cX10_goesRight 91 = .ok (.invokestatic 183, 3) := by decide +kernel
theorem dX10_goesRight_94 : decode cX10_goesRight 94 = .ok (.ifCond .eq 7, 3) := by decide +kernel
theorem dX10_goesRight_97 : decode cX10_goesRight 97 = .ok (.iconst 1, 1) := by decide +kernel
theorem dX10_goesRight_98 : decode cX10_goesRight 98 = .ok (.goto 4, 3) := by decide +kernel
theorem dX10_goesRight_101 : decode cX10_goesRight 101 = .ok (.iconst 0, 1) := by decide +kernel
theorem dX10_goesRight_102 : decode cX10_goesRight 102 = .ok (.ireturn, 1) := by decide +kernel
theorem dX10_shown_0 : decode cX10_shown 0 = .ok (.aload_n 0, 1) := by decide +kernel
theorem dX10_shown_1 : decode cX10_shown 1 = .ok (.iload_n 1, 1) := by decide +kernel
theorem dX10_shown_2 : decode cX10_shown 2 = .ok (.iload_n 2, 1) := by decide +kernel
theorem dX10_shown_3 : decode cX10_shown 3 = .ok (.invokevirtual 205, 3) := by decide +kernel
theorem dX10_shown_6 : decode cX10_shown 6 = .ok (.ifCond .eq 44, 3) := by decide +kernel
theorem dX10_shown_9 : decode cX10_shown 9 = .ok (.aload_n 0, 1) := by decide +kernel
theorem dX10_shown_10 : decode cX10_shown 10 = .ok (.getfield 22, 3) := by decide +kernel
theorem dX10_shown_13 : decode cX10_shown 13 = .ok (.iload_n 1, 1) := by decide +kernel
theorem dX10_shown_14 : decode cX10_shown 14 = .ok (.dup2, 1) := by decide +kernel
theorem dX10_shown_15 : decode cX10_shown 15 = .ok (.iaload, 1) := by decide +kernel
theorem dX10_shown_16 : decode cX10_shown 16 = .ok (.iconst 1, 1) := by decide +kernel
theorem dX10_shown_17 : decode cX10_shown 17 = .ok (.iload_n 2, 1) := by decide +kernel
theorem dX10_shown_18 : decode cX10_shown 18 = .ok (.ishl, 1) := by decide +kernel
theorem dX10_shown_19 : decode cX10_shown 19 = .ok (.ior, 1) := by decide +kernel
theorem dX10_shown_20 : decode cX10_shown 20 = .ok (.iastore, 1) := by decide +kernel
theorem dX10_shown_21 : decode cX10_shown 21 = .ok (.aload_n 0, 1) := by decide +kernel
theorem dX10_shown_22 : decode cX10_shown 22 = .ok (.getfield 28, 3) := by decide +kernel
theorem dX10_shown_25 : decode cX10_shown 25 = .ok (.iload_n 1, 1) := by decide +kernel
theorem dX10_shown_26 : decode cX10_shown 26 = .ok (.iconst 0, 1) := by decide +kernel
theorem dX10_shown_27 : decode cX10_shown 27 = .ok (.iastore, 1) := by decide +kernel
theorem dX10_shown_28 : decode cX10_shown 28 = .ok (.aload_n 0, 1) := by decide +kernel
theorem dX10_shown_29 : decode cX10_shown 29 = .ok (.getfield 31, 3) := by decide +kernel
theorem dX10_shown_32 : decode cX10_shown 32 = .ok (.iload_n 1, 1) := by decide +kernel
theorem dX10_shown_33 : decode cX10_shown 33 = .ok (.dup2, 1) := by decide +kernel
theorem dX10_shown_34 : decode cX10_shown 34 = .ok (.iaload, 1) := by decide +kernel
theorem dX10_shown_35 : decode cX10_shown 35 = .ok (.iconst 1, 1) := by decide +kernel
theorem dX10_shown_36 : decode cX10_shown 36 = .ok (.iadd, 1) := by decide +kernel
theorem dX10_shown_37 : decode cX10_shown 37 = .ok (.iastore, 1) := by decide +kernel
theorem dX10_shown_38 : decode cX10_shown 38 = .ok (.aload_n 0, 1) := by decide +kernel
theorem dX10_shown_39 : decode cX10_shown 39 = .ok (.dup, 1) := by decide +kernel
theorem dX10_shown_40 : decode cX10_shown 40 = .ok (.getfield 149, 3) := by decide +kernel
theorem dX10_shown_43 : decode cX10_shown 43 = .ok (.iconst 1, 1) := by decide +kernel
theorem dX10_shown_44 : decode cX10_shown 44 = .ok (.iadd, 1) := by decide +kernel
theorem dX10_shown_45 : decode cX10_shown 45 = .ok (.putfield 149, 3) := by decide +kernel
theorem dX10_shown_48 : decode cX10_shown 48 = .ok (.iconst 1, 1) := by decide +kernel
theorem dX10_shown_49 : decode cX10_shown 49 = .ok (.ireturn, 1) := by decide +kernel
theorem dX10_shown_50 : decode cX10_shown 50 = .ok (.aload_n 0, 1) := by decide +kernel
theorem dX10_shown_51 : decode cX10_shown 51 = .ok (.getfield 25, 3) := by decide +kernel
theorem dX10_shown_54 : decode cX10_shown 54 = .ok (.iload_n 1, 1) := by decide +kernel
theorem dX10_shown_55 : decode cX10_shown 55 = .ok (.dup2, 1) := by decide +kernel
theorem dX10_shown_56 : decode cX10_shown 56 = .ok (.iaload, 1) := by decide +kernel
theorem dX10_shown_57 : decode cX10_shown 57 = .ok (.iconst 1, 1) := by decide +kernel
theorem dX10_shown_58 : decode cX10_shown 58 = .ok (.iload_n 2, 1) := by decide +kernel
theorem dX10_shown_59 : decode cX10_shown 59 = .ok (.ishl, 1) := by decide +kernel
theorem dX10_shown_60 : decode cX10_shown 60 = .ok (.ior, 1) := by decide +kernel
theorem dX10_shown_61 : decode cX10_shown 61 = .ok (.iastore, 1) := by decide +kernel
theorem dX10_shown_62 : decode cX10_shown 62 = .ok (.aload_n 0, 1) := by decide +kernel
theorem dX10_shown_63 : decode cX10_shown 63 = .ok (.getfield 28, 3) := by decide +kernel
theorem dX10_shown_66 : decode cX10_shown 66 = .ok (.iload_n 1, 1) := by decide +kernel
theorem dX10_shown_67 : decode cX10_shown 67 = .ok (.dup2, 1) := by decide +kernel
theorem dX10_shown_68 : decode cX10_shown 68 = .ok (.iaload, 1) := by decide +kernel
theorem dX10_shown_69 : decode cX10_shown 69 = .ok (.iconst 1, 1) := by decide +kernel
theorem dX10_shown_70 : decode cX10_shown 70 = .ok (.iadd, 1) := by decide +kernel
theorem dX10_shown_71 : decode cX10_shown 71 = .ok (.iastore, 1) := by decide +kernel
theorem dX10_shown_72 : decode cX10_shown 72 = .ok (.aload_n 0, 1) := by decide +kernel
theorem dX10_shown_73 : decode cX10_shown 73 = .ok (.dup, 1) := by decide +kernel
theorem dX10_shown_74 : decode cX10_shown 74 = .ok (.getfield 152, 3) := by decide +kernel
theorem dX10_shown_77 : decode cX10_shown 77 = .ok (.iconst 1, 1) := by decide +kernel
theorem dX10_shown_78 : decode cX10_shown 78 = .ok (.iadd, 1) := by decide +kernel
theorem dX10_shown_79 : decode cX10_shown 79 = .ok (.putfield 152, 3) := by decide +kernel
theorem dX10_shown_82 : decode cX10_shown 82 = .ok (.iconst 0, 1) := by decide +kernel
theorem dX10_shown_83 : decode cX10_shown 83 = .ok (.ireturn, 1) := by decide +kernel
theorem dX10_wasShown_0 : decode cX10_wasShown 0 = .ok (.aload_n 0, 1) := by decide +kernel
theorem dX10_wasShown_1 : decode cX10_wasShown 1 = .ok (.getfield 22, 3) := by decide +kernel
theorem dX10_wasShown_4 : decode cX10_wasShown 4 = .ok (.iload_n 1, 1) := by decide +kernel
theorem dX10_wasShown_5 : decode cX10_wasShown 5 = .ok (.iaload, 1) := by decide +kernel
theorem dX10_wasShown_6 : decode cX10_wasShown 6 = .ok (.aload_n 0, 1) := by decide +kernel
theorem dX10_wasShown_7 : decode cX10_wasShown 7 = .ok (.getfield 25, 3) := by decide +kernel
theorem dX10_wasShown_10 : decode cX10_wasShown 10 = .ok (.iload_n 1, 1) := by decide +kernel
theorem dX10_wasShown_11 : decode cX10_wasShown 11 = .ok (.iaload, 1) := by decide +kernel
theorem dX10_wasShown_12 : decode cX10_wasShown 12 = .ok (.ior, 1) := by decide +kernel
theorem dX10_wasShown_13 : decode cX10_wasShown 13 = .ok (.iload_n 2, 1) := by decide +kernel
theorem dX10_wasShown_14 : decode cX10_wasShown 14 = .ok (.invokestatic 183, 3) := by decide +kernel
theorem dX10_wasShown_17 : decode cX10_wasShown 17 = .ok (.ireturn, 1) := by decide +kernel
theorem dX10_show_0 : decode cX10_show 0 = .ok (.aload_n 0, 1) := by decide +kernel
theorem dX10_show_1 : decode cX10_show 1 = .ok (.iload_n 1, 1) := by decide +kernel
theorem dX10_show_2 : decode cX10_show 2 = .ok (.iload_n 2, 1) := by decide +kernel
theorem dX10_show_3 : decode cX10_show 3 = .ok (.invokevirtual 208, 3) := by decide +kernel
theorem dX10_show_6 : decode cX10_show 6 = .ok (.ifCond .ne 6, 3) := by decide +kernel
theorem dX10_show_9 : decode cX10_show 9 = .ok (.bipush (-101), 2) := by decide +kernel
theorem dX10_show_11 : decode cX10_show 11 = .ok (.ireturn, 1) := by decide +kernel
theorem dX10_show_12 : decode cX10_show 12 = .ok (.aload_n 0, 1) := by decide +kernel
theorem dX10_show_13 : decode cX10_show 13 = .ok (.iload_n 1, 1) := by decide +kernel
theorem dX10_show_14 : decode cX10_show 14 = .ok (.iload_n 2, 1) := by decide +kernel
theorem dX10_show_15 : decode cX10_show 15 = .ok (.invokevirtual 174, 3) := by decide +kernel
theorem dX10_show_18 : decode cX10_show 18 = .ok (.ifCond .eq 34, 3) := by decide +kernel
theorem dX10_show_21 : decode cX10_show 21 = .ok (.aload_n 0, 1) := by decide +kernel
theorem dX10_show_22 : decode cX10_show 22 = .ok (.iload_n 1, 1) := by decide +kernel
theorem dX10_show_23 : decode cX10_show 23 = .ok (.iload_n 2, 1) := by decide +kernel
theorem dX10_show_24 : decode cX10_show 24 = .ok (.invokevirtual 211, 3) := by decide +kernel
theorem dX10_show_27 : decode cX10_show 27 = .ok (.ifCond .ne 25, 3) := by decide +kernel
theorem dX10_show_30 : decode cX10_show 30 = .ok (.aload_n 0, 1) := by decide +kernel
theorem dX10_show_31 : decode cX10_show 31 = .ok (.iload_n 1, 1) := by decide +kernel
theorem dX10_show_32 : decode cX10_show 32 = .ok (.invokevirtual 214, 3) := by decide +kernel
theorem dX10_show_35 : decode cX10_show 35 = .ok (.ifCond .eq 17, 3) := by decide +kernel
theorem dX10_show_38 : decode cX10_show 38 = .ok (.aload_n 0, 1) := by decide +kernel
theorem dX10_show_39 : decode cX10_show 39 = .ok (.getfield 34, 3) := by decide +kernel
theorem dX10_show_42 : decode cX10_show 42 = .ok (.iload_n 2, 1) := by decide +kernel
theorem dX10_show_43 : decode cX10_show 43 = .ok (.iaload, 1) := by decide +kernel
theorem dX10_show_44 : decode cX10_show 44 = .ok (.iconst (-1), 1) := by decide +kernel
theorem dX10_show_45 : decode cX10_show 45 = .ok (.if_icmp .ne 7, 3) := by decide +kernel
theorem dX10_show_48 : decode cX10_show 48 = .ok (.iconst 1, 1) := by decide +kernel
theorem dX10_show_49 : decode cX10_show 49 = .ok (.goto 4, 3) := by decide +kernel
theorem dX10_show_52 : decode cX10_show 52 = .ok (.iconst 0, 1) := by decide +kernel
theorem dX10_show_53 : decode cX10_show 53 = .ok (.istore_n 3, 1) := by decide +kernel
theorem dX10_show_54 : decode cX10_show 54 = .ok (.iload_n 3, 1) := by decide +kernel
theorem dX10_show_55 : decode cX10_show 55 = .ok (.ifCond .ne 6, 3) := by decide +kernel
theorem dX10_show_58 : decode cX10_show 58 = .ok (.bipush (-103), 2) := by decide +kernel
theorem dX10_show_60 : decode cX10_show 60 = .ok (.ireturn, 1) := by decide +kernel
theorem dX10_show_61 : decode cX10_show 61 = .ok (.aload_n 0, 1) := by decide +kernel
theorem dX10_show_62 : decode cX10_show 62 = .ok (.iload_n 1, 1) := by decide +kernel
theorem dX10_show_63 : decode cX10_show 63 = .ok (.iload_n 2, 1) := by decide +kernel
theorem dX10_show_64 : decode cX10_show 64 = .ok (.invokevirtual 217, 3) := by decide +kernel
theorem dX10_show_67 : decode cX10_show 67 = .ok (.ifCond .ne 7, 3) := by decide +kernel
theorem dX10_show_70 : decode cX10_show 70 = .ok (.iconst 0, 1) := by decide +kernel
theorem dX10_show_71 : decode cX10_show 71 = .ok (.goto 17, 3) := by decide +kernel
theorem dX10_show_74 : decode cX10_show 74 = .ok (.aload_n 0, 1) := by decide +kernel
theorem dX10_show_75 : decode cX10_show 75 = .ok (.iload_n 1, 1) := by decide +kernel
theorem dX10_show_76 : decode cX10_show 76 = .ok (.iload_n 2, 1) := by decide +kernel
theorem dX10_show_77 : decode cX10_show 77 = .ok (.invokevirtual 186, 3) := by decide +kernel
theorem dX10_show_80 : decode cX10_show 80 = .ok (.ifCond .eq 7, 3) := by decide +kernel
theorem dX10_show_83 : decode cX10_show 83 = .ok (.iconst 2, 1) := by decide +kernel
theorem dX10_show_84 : decode cX10_show 84 = .ok (.goto 4, 3) := by decide +kernel
theorem dX10_show_87 : decode cX10_show 87 = .ok (.iconst 1, 1) := by decide +kernel
theorem dX10_show_88 : decode cX10_show 88 = .ok (.ireturn, 1) := by decide +kernel
theorem dX10_back_0 : decode cX10_back 0 = .ok (.aload_n 0, 1) := by decide +kernel
theorem dX10_back_1 : decode cX10_back 1 = .ok (.iload_n 1, 1) := by decide +kernel
theorem dX10_back_2 : decode cX10_back 2 = .ok (.iload_n 2, 1) := by decide +kernel
theorem dX10_back_3 : decode cX10_back 3 = .ok (.invokevirtual 208, 3) := by decide +kernel
theorem dX10_back_6 : decode cX10_back 6 = .ok (.ifCond .ne 6, 3) := by decide +kernel
theorem dX10_back_9 : decode cX10_back 9 = .ok (.bipush (-101), 2) := by decide +kernel
theorem dX10_back_11 : decode cX10_back 11 = .ok (.ireturn, 1) := by decide +kernel
theorem dX10_back_12 : decode cX10_back 12 = .ok (.aload_n 0, 1) := by decide +kernel
theorem dX10_back_13 : decode cX10_back 13 = .ok (.iload_n 1, 1) := by decide +kernel
theorem dX10_back_14 : decode cX10_back 14 = .ok (.iload_n 2, 1) := by decide +kernel
theorem dX10_back_15 : decode cX10_back 15 = .ok (.invokevirtual 211, 3) := by decide +kernel
theorem dX10_back_18 : decode cX10_back 18 = .ok (.ifCond .eq 13, 3) := by decide +kernel
theorem dX10_back_21 : decode cX10_back 21 = .ok (.aload_n 0, 1) := by decide +kernel
theorem dX10_back_22 : decode cX10_back 22 = .ok (.getfield 34, 3) := by decide +kernel
theorem dX10_back_25 : decode cX10_back 25 = .ok (.iload_n 1, 1) := by decide +kernel
theorem dX10_back_26 : decode cX10_back 26 = .ok (.iaload, 1) := by decide +kernel
theorem dX10_back_27 : decode cX10_back 27 = .ok (.iload_n 2, 1) := by decide +kernel
theorem dX10_back_28 : decode cX10_back 28 = .ok (.if_icmp .ne 6, 3) := by decide +kernel
theorem dX10_back_31 : decode cX10_back 31 = .ok (.bipush (-103), 2) := by decide +kernel
theorem dX10_back_33 : decode cX10_back 33 = .ok (.ireturn, 1) := by decide +kernel
theorem dX10_back_34 : decode cX10_back 34 = .ok (.aload_n 0, 1) := by decide +kernel
theorem dX10_back_35 : decode cX10_back 35 = .ok (.getfield 22, 3) := by decide +kernel
theorem dX10_back_38 : decode cX10_back 38 = .ok (.iload_n 1, 1) := by decide +kernel
theorem dX10_back_39 : decode cX10_back 39 = .ok (.iaload, 1) := by decide +kernel
theorem dX10_back_40 : decode cX10_back 40 = .ok (.iload_n 2, 1) := by decide +kernel
theorem dX10_back_41 : decode cX10_back 41 = .ok (.ishr, 1) := by decide +kernel
theorem dX10_back_42 : decode cX10_back 42 = .ok (.iconst 1, 1) := by decide +kernel
theorem dX10_back_43 : decode cX10_back 43 = .ok (.iand, 1) := by decide +kernel
theorem dX10_back_44 : decode cX10_back 44 = .ok (.istore_n 3, 1) := by decide +kernel
theorem dX10_back_45 : decode cX10_back 45 = .ok (.aload_n 0, 1) := by decide +kernel
theorem dX10_back_46 : decode cX10_back 46 = .ok (.getfield 22, 3) := by decide +kernel
theorem dX10_back_49 : decode cX10_back 49 = .ok (.iload_n 1, 1) := by decide +kernel
theorem dX10_back_50 : decode cX10_back 50 = .ok (.dup2, 1) := by decide +kernel
theorem dX10_back_51 : decode cX10_back 51 = .ok (.iaload, 1) := by decide +kernel
theorem dX10_back_52 : decode cX10_back 52 = .ok (.iconst 1, 1) := by decide +kernel
theorem dX10_back_53 : decode cX10_back 53 = .ok (.iload_n 2, 1) := by decide +kernel
theorem dX10_back_54 : decode cX10_back 54 = .ok (.ishl, 1) := by decide +kernel
theorem dX10_back_55 : decode cX10_back 55 = .ok (.iconst (-1), 1) := by decide +kernel
theorem dX10_back_56 : decode cX10_back 56 = .ok (.ixor, 1) := by decide +kernel
theorem dX10_back_57 : decode cX10_back 57 = .ok (.iand, 1) := by decide +kernel
theorem dX10_back_58 : decode cX10_back 58 = .ok (.iastore, 1) := by decide +kernel
theorem dX10_back_59 : decode cX10_back 59 = .ok (.aload_n 0, 1) := by decide +kernel
theorem dX10_back_60 : decode cX10_back 60 = .ok (.getfield 25, 3) := by decide +kernel
theorem dX10_back_63 : decode cX10_back 63 = .ok (.iload_n 1, 1) := by decide +kernel
theorem dX10_back_64 : decode cX10_back 64 = .ok (.dup2, 1) := by decide +kernel
theorem dX10_back_65 : decode cX10_back 65 = .ok (.iaload, 1) := by decide +kernel
theorem dX10_back_66 : decode cX10_back 66 = .ok (.iconst 1, 1) := by decide +kernel
theorem dX10_back_67 : decode cX10_back 67 = .ok (.iload_n 2, 1) := by decide +kernel
theorem dX10_back_68 : decode cX10_back 68 = .ok (.ishl, 1) := by decide +kernel
theorem dX10_back_69 : decode cX10_back 69 = .ok (.iconst (-1), 1) := by decide +kernel
theorem dX10_back_70 : decode cX10_back 70 = .ok (.ixor, 1) := by decide +kernel
theorem dX10_back_71 : decode cX10_back 71 = .ok (.iand, 1) := by decide +kernel
theorem dX10_back_72 : decode cX10_back 72 = .ok (.iastore, 1) := by decide +kernel
theorem dX10_back_73 : decode cX10_back 73 = .ok (.aload_n 0, 1) := by decide +kernel
theorem dX10_back_74 : decode cX10_back 74 = .ok (.dup, 1) := by decide +kernel
theorem dX10_back_75 : decode cX10_back 75 = .ok (.getfield 155, 3) := by decide +kernel
theorem dX10_back_78 : decode cX10_back 78 = .ok (.iconst 1, 1) := by decide +kernel
theorem dX10_back_79 : decode cX10_back 79 = .ok (.iadd, 1) := by decide +kernel
theorem dX10_back_80 : decode cX10_back 80 = .ok (.putfield 155, 3) := by decide +kernel
theorem dX10_back_83 : decode cX10_back 83 = .ok (.iload_n 3, 1) := by decide +kernel
theorem dX10_back_84 : decode cX10_back 84 = .ok (.ireturn, 1) := by decide +kernel
theorem dX10_day_0 : decode cX10_day 0 = .ok (.aload_n 0, 1) := by decide +kernel
theorem dX10_day_1 : decode cX10_day 1 = .ok (.getfield 140, 3) := by decide +kernel
theorem dX10_day_4 : decode cX10_day 4 = .ok (.ifCond .ne 6, 3) := by decide +kernel
theorem dX10_day_7 : decode cX10_day 7 = .ok (.bipush (-103), 2) := by decide +kernel
theorem dX10_day_9 : decode cX10_day 9 = .ok (.ireturn, 1) := by decide +kernel
theorem dX10_day_10 : decode cX10_day 10 = .ok (.aload_n 0, 1) := by decide +kernel
theorem dX10_day_11 : decode cX10_day 11 = .ok (.getfield 146, 3) := by decide +kernel
theorem dX10_day_14 : decode cX10_day 14 = .ok (.bipush 99, 2) := by decide +kernel
theorem dX10_day_16 : decode cX10_day 16 = .ok (.if_icmp .ne 6, 3) := by decide +kernel
theorem dX10_day_19 : decode cX10_day 19 = .ok (.bipush (-104), 2) := by decide +kernel
theorem dX10_day_21 : decode cX10_day 21 = .ok (.ireturn, 1) := by decide +kernel
theorem dX10_day_22 : decode cX10_day 22 = .ok (.iconst 0, 1) := by decide +kernel
theorem dX10_day_23 : decode cX10_day 23 = .ok (.istore_n 1, 1) := by decide +kernel
theorem dX10_day_24 : decode cX10_day 24 = .ok (.iload_n 1, 1) := by decide +kernel
theorem dX10_day_25 : decode cX10_day 25 = .ok (.aload_n 0, 1) := by decide +kernel
theorem dX10_day_26 : decode cX10_day 26 = .ok (.getfield 140, 3) := by decide +kernel
theorem dX10_day_29 : decode cX10_day 29 = .ok (.if_icmp .ge 16, 3) := by decide +kernel
theorem dX10_day_32 : decode cX10_day 32 = .ok (.aload_n 0, 1) := by decide +kernel
theorem dX10_day_33 : decode cX10_day 33 = .ok (.getfield 31, 3) := by decide +kernel
theorem dX10_day_36 : decode cX10_day 36 = .ok (.iload_n 1, 1) := by decide +kernel
theorem dX10_day_37 : decode cX10_day 37 = .ok (.iconst 0, 1) := by decide +kernel
theorem dX10_day_38 : decode cX10_day 38 = .ok (.iastore, 1) := by decide +kernel
theorem dX10_day_39 : decode cX10_day 39 = .ok (.iinc 1 1, 3) := by decide +kernel
theorem dX10_day_42 : decode cX10_day 42 = .ok (.goto (-18), 3) := by decide +kernel
theorem dX10_day_45 : decode cX10_day 45 = .ok (.aload_n 0, 1) := by decide +kernel
theorem dX10_day_46 : decode cX10_day 46 = .ok (.dup, 1) := by decide +kernel
theorem dX10_day_47 : decode cX10_day 47 = .ok (.getfield 146, 3) := by decide +kernel
theorem dX10_day_50 : decode cX10_day 50 = .ok (.iconst 1, 1) := by decide +kernel
theorem dX10_day_51 : decode cX10_day 51 = .ok (.iadd, 1) := by decide +kernel
theorem dX10_day_52 : decode cX10_day 52 = .ok (.putfield 146, 3) := by decide +kernel
theorem dX10_day_55 : decode cX10_day 55 = .ok (.aload_n 0, 1) := by decide +kernel
theorem dX10_day_56 : decode cX10_day 56 = .ok (.getfield 146, 3) := by decide +kernel
theorem dX10_day_59 : decode cX10_day 59 = .ok (.ireturn, 1) := by decide +kernel
theorem dX10_isContent_0 : decode cX10_isContent 0 = .ok (.aload_n 0, 1) := by decide +kernel
theorem dX10_isContent_1 : decode cX10_isContent 1 = .ok (.getfield 7, 3) := by decide +kernel
theorem dX10_isContent_4 : decode cX10_isContent 4 = .ok (.iload_n 1, 1) := by decide +kernel
theorem dX10_isContent_5 : decode cX10_isContent 5 = .ok (.iaload, 1) := by decide +kernel
theorem dX10_isContent_6 : decode cX10_isContent 6 = .ok (.iconst 1, 1) := by decide +kernel
theorem dX10_isContent_7 : decode cX10_isContent 7 = .ok (.if_icmp .eq 18, 3) := by decide +kernel
theorem dX10_isContent_10 : decode cX10_isContent 10 = .ok (.aload_n 0, 1) := by decide +kernel
theorem dX10_isContent_11 : decode cX10_isContent 11 = .ok (.getfield 13, 3) := by decide +kernel
theorem dX10_isContent_14 : decode cX10_isContent 14 = .ok (.iload_n 2, 1) := by decide +kernel
theorem dX10_isContent_15 : decode cX10_isContent 15 = .ok (.iaload, 1) := by decide +kernel
theorem dX10_isContent_16 : decode cX10_isContent 16 = .ok (.aload_n 0, 1) := by decide +kernel
theorem dX10_isContent_17 : decode cX10_isContent 17 = .ok (.getfield 19, 3) := by decide +kernel
theorem dX10_isContent_20 : decode cX10_isContent 20 = .ok (.iload_n 1, 1) := by decide +kernel
theorem dX10_isContent_21 : decode cX10_isContent 21 = .ok (.iaload, 1) := by decide +kernel
theorem dX10_isContent_22 : decode cX10_isContent 22 = .ok (.if_icmp .lt 7, 3) := by decide +kernel
theorem dX10_isContent_25 : decode cX10_isContent 25 = .ok (.iconst 1, 1) := by decide +kernel
theorem dX10_isContent_26 : decode cX10_isContent 26 = .ok (.goto 4, 3) := by decide +kernel
theorem dX10_isContent_29 : decode cX10_isContent 29 = .ok (.iconst 0, 1) := by decide +kernel
theorem dX10_isContent_30 : decode cX10_isContent 30 = .ok (.ireturn, 1) := by decide +kernel
theorem dX10_leaves_0 : decode cX10_leaves 0 = .ok (.aload_n 0, 1) := by decide +kernel
theorem dX10_leaves_1 : decode cX10_leaves 1 = .ok (.getfield 22, 3) := by decide +kernel
theorem dX10_leaves_4 : decode cX10_leaves 4 = .ok (.iload_n 1, 1) := by decide +kernel
theorem dX10_leaves_5 : decode cX10_leaves 5 = .ok (.dup2, 1) := by decide +kernel
theorem dX10_leaves_6 : decode cX10_leaves 6 = .ok (.iaload, 1) := by decide +kernel
theorem dX10_leaves_7 : decode cX10_leaves 7 = .ok (.iconst 1, 1) := by decide +kernel
theorem dX10_leaves_8 : decode cX10_leaves 8 = .ok (.iload_n 2, 1) := by decide +kernel
theorem dX10_leaves_9 : decode cX10_leaves 9 = .ok (.ishl, 1) := by decide +kernel
theorem dX10_leaves_10 : decode cX10_leaves 10 = .ok (.iconst (-1), 1) := by decide +kernel
theorem dX10_leaves_11 : decode cX10_leaves 11 = .ok (.ixor, 1) := by decide +kernel
theorem dX10_leaves_12 : decode cX10_leaves 12 = .ok (.iand, 1) := by decide +kernel
theorem dX10_leaves_13 : decode cX10_leaves 13 = .ok (.iastore, 1) := by decide +kernel
theorem dX10_leaves_14 : decode cX10_leaves 14 = .ok (.aload_n 0, 1) := by decide +kernel
theorem dX10_leaves_15 : decode cX10_leaves 15 = .ok (.getfield 25, 3) := by decide +kernel
theorem dX10_leaves_18 : decode cX10_leaves 18 = .ok (.iload_n 1, 1) := by decide +kernel
theorem dX10_leaves_19 : decode cX10_leaves 19 = .ok (.dup2, 1) := by decide +kernel
theorem dX10_leaves_20 : decode cX10_leaves 20 = .ok (.iaload, 1) := by decide +kernel
theorem dX10_leaves_21 : decode cX10_leaves 21 = .ok (.iconst 1, 1) := by decide +kernel
theorem dX10_leaves_22 : decode cX10_leaves 22 = .ok (.iload_n 2, 1) := by decide +kernel
theorem dX10_leaves_23 : decode cX10_leaves 23 = .ok (.ishl, 1) := by decide +kernel
theorem dX10_leaves_24 : decode cX10_leaves 24 = .ok (.ior, 1) := by decide +kernel
theorem dX10_leaves_25 : decode cX10_leaves 25 = .ok (.iastore, 1) := by decide +kernel
theorem dX10_leaves_26 : decode cX10_leaves 26 = .ok (.return_, 1) := by decide +kernel
theorem dX10_meet_0 : decode cX10_meet 0 = .ok (.aload_n 0, 1) := by decide +kernel
theorem dX10_meet_1 : decode cX10_meet 1 = .ok (.iload_n 1, 1) := by decide +kernel
theorem dX10_meet_2 : decode cX10_meet 2 = .ok (.iload_n 2, 1) := by decide +kernel
theorem dX10_meet_3 : decode cX10_meet 3 = .ok (.invokevirtual 208, 3) := by decide +kernel
theorem dX10_meet_6 : decode cX10_meet 6 = .ok (.ifCond .ne 6, 3) := by decide +kernel
theorem dX10_meet_9 : decode cX10_meet 9 = .ok (.bipush (-101), 2) := by decide +kernel
theorem dX10_meet_11 : decode cX10_meet 11 = .ok (.ireturn, 1) := by decide +kernel
theorem dX10_meet_12 : decode cX10_meet 12 = .ok (.aload_n 0, 1) := by decide +kernel
theorem dX10_meet_13 : decode cX10_meet 13 = .ok (.iload_n 1, 1) := by decide +kernel
theorem dX10_meet_14 : decode cX10_meet 14 = .ok (.iload_n 2, 1) := by decide +kernel
theorem dX10_meet_15 : decode cX10_meet 15 = .ok (.invokevirtual 186, 3) := by decide +kernel
theorem dX10_meet_18 : decode cX10_meet 18 = .ok (.ifCond .eq 23, 3) := by decide +kernel
theorem dX10_meet_21 : decode cX10_meet 21 = .ok (.aload_n 0, 1) := by decide +kernel
theorem dX10_meet_22 : decode cX10_meet 22 = .ok (.getfield 34, 3) := by decide +kernel
theorem dX10_meet_25 : decode cX10_meet 25 = .ok (.iload_n 1, 1) := by decide +kernel
theorem dX10_meet_26 : decode cX10_meet 26 = .ok (.iaload, 1) := by decide +kernel
theorem dX10_meet_27 : decode cX10_meet 27 = .ok (.iconst (-1), 1) := by decide +kernel
theorem dX10_meet_28 : decode cX10_meet 28 = .ok (.if_icmp .ne 13, 3) := by decide +kernel
theorem dX10_meet_31 : decode cX10_meet 31 = .ok (.aload_n 0, 1) := by decide +kernel
theorem dX10_meet_32 : decode cX10_meet 32 = .ok (.getfield 34, 3) := by decide +kernel
theorem dX10_meet_35 : decode cX10_meet 35 = .ok (.iload_n 2, 1) := by decide +kernel
theorem dX10_meet_36 : decode cX10_meet 36 = .ok (.iaload, 1) := by decide +kernel
theorem dX10_meet_37 : decode cX10_meet 37 = .ok (.iconst (-1), 1) := by decide +kernel
theorem dX10_meet_38 : decode cX10_meet 38 = .ok (.if_icmp .eq 6, 3) := by decide +kernel
theorem dX10_meet_41 : decode cX10_meet 41 = .ok (.bipush (-103), 2) := by decide +kernel
theorem dX10_meet_43 : decode cX10_meet 43 = .ok (.ireturn, 1) := by decide +kernel
theorem dX10_meet_44 : decode cX10_meet 44 = .ok (.aload_n 0, 1) := by decide +kernel
theorem dX10_meet_45 : decode cX10_meet 45 = .ok (.dup, 1) := by decide +kernel
theorem dX10_meet_46 : decode cX10_meet 46 = .ok (.getfield 158, 3) := by decide +kernel
theorem dX10_meet_49 : decode cX10_meet 49 = .ok (.iconst 1, 1) := by decide +kernel
theorem dX10_meet_50 : decode cX10_meet 50 = .ok (.iadd, 1) := by decide +kernel
theorem dX10_meet_51 : decode cX10_meet 51 = .ok (.putfield 158, 3) := by decide +kernel
theorem dX10_meet_54 : decode cX10_meet 54 = .ok (.aload_n 0, 1) := by decide +kernel
theorem dX10_meet_55 : decode cX10_meet 55 = .ok (.iload_n 1, 1) := by decide +kernel
theorem dX10_meet_56 : decode cX10_meet 56 = .ok (.iload_n 2, 1) := by decide +kernel
theorem dX10_meet_57 : decode cX10_meet 57 = .ok (.invokevirtual 220, 3) := by decide +kernel
theorem dX10_meet_60 : decode cX10_meet 60 = .ok (.ifCond .eq 28, 3) := by decide +kernel
theorem dX10_meet_63 : decode cX10_meet 63 = .ok (.aload_n 0, 1) := by decide +kernel
theorem dX10_meet_64 : decode cX10_meet 64 = .ok (.iload_n 2, 1) := by decide +kernel
theorem dX10_meet_65 : decode cX10_meet 65 = .ok (.iload_n 1, 1) := by decide +kernel
theorem dX10_meet_66 : decode cX10_meet 66 = .ok (.invokevirtual 220, 3) := by decide +kernel
theorem dX10_meet_69 : decode cX10_meet 69 = .ok (.ifCond .eq 19, 3) := by decide +kernel
theorem dX10_meet_72 : decode cX10_meet 72 = .ok (.aload_n 0, 1) := by decide +kernel
theorem dX10_meet_73 : decode cX10_meet 73 = .ok (.getfield 34, 3) := by decide +kernel
theorem dX10_meet_76 : decode cX10_meet 76 = .ok (.iload_n 1, 1) := by decide +kernel
theorem dX10_meet_77 : decode cX10_meet 77 = .ok (.iload_n 2, 1) := by decide +kernel
theorem dX10_meet_78 : decode cX10_meet 78 = .ok (.iastore, 1) := by decide +kernel
theorem dX10_meet_79 : decode cX10_meet 79 = .ok (.aload_n 0, 1) := by decide +kernel
theorem dX10_meet_80 : decode cX10_meet 80 = .ok (.getfield 34, 3) := by decide +kernel
theorem dX10_meet_83 : decode cX10_meet 83 = .ok (.iload_n 2, 1) := by decide +kernel
theorem dX10_meet_84 : decode cX10_meet 84 = .ok (.iload_n 1, 1) := by decide +kernel
theorem dX10_meet_85 : decode cX10_meet 85 = .ok (.iastore, 1) := by decide +kernel
theorem dX10_meet_86 : decode cX10_meet 86 = .ok (.iconst 1, 1) := by decide +kernel
theorem dX10_meet_87 : decode cX10_meet 87 = .ok (.ireturn, 1) := by decide +kernel
theorem dX10_meet_88 : decode cX10_meet 88 = .ok (.aload_n 0, 1) := by decide +kernel
theorem dX10_meet_89 : decode cX10_meet 89 = .ok (.iload_n 1, 1) := by decide +kernel
theorem dX10_meet_90 : decode cX10_meet 90 = .ok (.iload_n 2, 1) := by decide +kernel
theorem dX10_meet_91 : decode cX10_meet 91 = .ok (.invokevirtual 223, 3) := by decide +kernel
theorem dX10_meet_94 : decode cX10_meet 94 = .ok (.aload_n 0, 1) := by decide +kernel
theorem dX10_meet_95 : decode cX10_meet 95 = .ok (.iload_n 2, 1) := by decide +kernel
theorem dX10_meet_96 : decode cX10_meet 96 = .ok (.iload_n 1, 1) := by decide +kernel
theorem dX10_meet_97 : decode cX10_meet 97 = .ok (.invokevirtual 223, 3) := by decide +kernel
theorem dX10_meet_100 : decode cX10_meet 100 = .ok (.iconst 0, 1) := by decide +kernel
theorem dX10_meet_101 : decode cX10_meet 101 = .ok (.ireturn, 1) := by decide +kernel
theorem dX10_part_0 : decode cX10_part 0 = .ok (.aload_n 0, 1) := by decide +kernel
theorem dX10_part_1 : decode cX10_part 1 = .ok (.iload_n 1, 1) := by decide +kernel
theorem dX10_part_2 : decode cX10_part 2 = .ok (.invokevirtual 167, 3) := by decide +kernel
theorem dX10_part_5 : decode cX10_part 5 = .ok (.ifCond .ne 6, 3) := by decide +kernel
theorem dX10_part_8 : decode cX10_part 8 = .ok (.bipush (-101), 2) := by decide +kernel
theorem dX10_part_10 : decode cX10_part 10 = .ok (.ireturn, 1) := by decide +kernel
theorem dX10_part_11 : decode cX10_part 11 = .ok (.aload_n 0, 1) := by decide +kernel
theorem dX10_part_12 : decode cX10_part 12 = .ok (.getfield 34, 3) := by decide +kernel
theorem dX10_part_15 : decode cX10_part 15 = .ok (.iload_n 1, 1) := by decide +kernel
theorem dX10_part_16 : decode cX10_part 16 = .ok (.iaload, 1) := by decide +kernel
theorem dX10_part_17 : decode cX10_part 17 = .ok (.istore_n 2, 1) := by decide +kernel
theorem dX10_part_18 : decode cX10_part 18 = .ok (.iload_n 2, 1) := by decide +kernel
theorem dX10_part_19 : decode cX10_part 19 = .ok (.iconst (-1), 1) := by decide +kernel
theorem dX10_part_20 : decode cX10_part 20 = .ok (.if_icmp .ne 6, 3) := by decide +kernel
theorem dX10_part_23 : decode cX10_part 23 = .ok (.bipush (-103), 2) := by decide +kernel
theorem dX10_part_25 : decode cX10_part 25 = .ok (.ireturn, 1) := by decide +kernel
theorem dX10_part_26 : decode cX10_part 26 = .ok (.aload_n 0, 1) := by decide +kernel
theorem dX10_part_27 : decode cX10_part 27 = .ok (.getfield 34, 3) := by decide +kernel
theorem dX10_part_30 : decode cX10_part 30 = .ok (.iload_n 1, 1) := by decide +kernel
theorem dX10_part_31 : decode cX10_part 31 = .ok (.iconst (-1), 1) := by decide +kernel
theorem dX10_part_32 : decode cX10_part 32 = .ok (.iastore, 1) := by decide +kernel
theorem dX10_part_33 : decode cX10_part 33 = .ok (.aload_n 0, 1) := by decide +kernel
theorem dX10_part_34 : decode cX10_part 34 = .ok (.getfield 34, 3) := by decide +kernel
theorem dX10_part_37 : decode cX10_part 37 = .ok (.iload_n 2, 1) := by decide +kernel
theorem dX10_part_38 : decode cX10_part 38 = .ok (.iconst (-1), 1) := by decide +kernel
theorem dX10_part_39 : decode cX10_part 39 = .ok (.iastore, 1) := by decide +kernel
theorem dX10_part_40 : decode cX10_part 40 = .ok (.aload_n 0, 1) := by decide +kernel
theorem dX10_part_41 : decode cX10_part 41 = .ok (.iload_n 1, 1) := by decide +kernel
theorem dX10_part_42 : decode cX10_part 42 = .ok (.iload_n 2, 1) := by decide +kernel
theorem dX10_part_43 : decode cX10_part 43 = .ok (.invokevirtual 223, 3) := by decide +kernel
theorem dX10_part_46 : decode cX10_part 46 = .ok (.aload_n 0, 1) := by decide +kernel
theorem dX10_part_47 : decode cX10_part 47 = .ok (.iload_n 2, 1) := by decide +kernel
theorem dX10_part_48 : decode cX10_part 48 = .ok (.iload_n 1, 1) := by decide +kernel
theorem dX10_part_49 : decode cX10_part 49 = .ok (.invokevirtual 223, 3) := by decide +kernel
theorem dX10_part_52 : decode cX10_part 52 = .ok (.iload_n 2, 1) := by decide +kernel
theorem dX10_part_53 : decode cX10_part 53 = .ok (.ireturn, 1) := by decide +kernel
theorem dX10_prefers_0 : decode cX10_prefers 0 = .ok (.aload_n 0, 1) := by decide +kernel
theorem dX10_prefers_1 : decode cX10_prefers 1 = .ok (.iload_n 1, 1) := by decide +kernel
theorem dX10_prefers_2 : decode cX10_prefers 2 = .ok (.invokevirtual 177, 3) := by decide +kernel
theorem dX10_prefers_5 : decode cX10_prefers 5 = .ok (.aload_n 0, 1) := by decide +kernel
theorem dX10_prefers_6 : decode cX10_prefers 6 = .ok (.iload_n 2, 1) := by decide +kernel
theorem dX10_prefers_7 : decode cX10_prefers 7 = .ok (.invokevirtual 177, 3) := by decide +kernel
theorem dX10_prefers_10 : decode cX10_prefers 10 = .ok (.if_icmp .gt 21, 3) := by decide +kernel
theorem dX10_prefers_13 : decode cX10_prefers 13 = .ok (.aload_n 0, 1) := by decide +kernel
theorem dX10_prefers_14 : decode cX10_prefers 14 = .ok (.iload_n 1, 1) := by decide +kernel
theorem dX10_prefers_15 : decode cX10_prefers 15 = .ok (.invokevirtual 177, 3) := by decide +kernel
theorem dX10_prefers_18 : decode cX10_prefers 18 = .ok (.aload_n 0, 1) := by decide +kernel
theorem dX10_prefers_19 : decode cX10_prefers 19 = .ok (.iload_n 2, 1) := by decide +kernel
theorem dX10_prefers_20 : decode cX10_prefers 20 = .ok (.invokevirtual 177, 3) := by decide +kernel
theorem dX10_prefers_23 : decode cX10_prefers 23 = .ok (.if_icmp .ne 12, 3) := by decide +kernel
theorem dX10_prefers_26 : decode cX10_prefers 26 = .ok (.iload_n 1, 1) := by decide +kernel
theorem dX10_prefers_27 : decode cX10_prefers 27 = .ok (.iload_n 2, 1) := by decide +kernel
theorem dX10_prefers_28 : decode cX10_prefers 28 = .ok (.if_icmp .ge 7, 3) := by decide +kernel
theorem dX10_prefers_31 : decode cX10_prefers 31 = .ok (.iconst 1, 1) := by decide +kernel
theorem dX10_prefers_32 : decode cX10_prefers 32 = .ok (.goto 4, 3) := by decide +kernel
theorem dX10_prefers_35 : decode cX10_prefers 35 = .ok (.iconst 0, 1) := by decide +kernel
theorem dX10_prefers_36 : decode cX10_prefers 36 = .ok (.ireturn, 1) := by decide +kernel
theorem dX10_mayBe_0 : decode cX10_mayBe 0 = .ok (.aload_n 0, 1) := by decide +kernel
theorem dX10_mayBe_1 : decode cX10_mayBe 1 = .ok (.iload_n 1, 1) := by decide +kernel
theorem dX10_mayBe_2 : decode cX10_mayBe 2 = .ok (.invokevirtual 214, 3) := by decide +kernel
theorem dX10_mayBe_5 : decode cX10_mayBe 5 = .ok (.ifCond .eq 24, 3) := by decide +kernel
theorem dX10_mayBe_8 : decode cX10_mayBe 8 = .ok (.aload_n 0, 1) := by decide +kernel
theorem dX10_mayBe_9 : decode cX10_mayBe 9 = .ok (.iload_n 2, 1) := by decide +kernel
theorem dX10_mayBe_10 : decode cX10_mayBe 10 = .ok (.invokevirtual 214, 3) := by decide +kernel
theorem dX10_mayBe_13 : decode cX10_mayBe 13 = .ok (.ifCond .eq 16, 3) := by decide +kernel
theorem dX10_mayBe_16 : decode cX10_mayBe 16 = .ok (.aload_n 0, 1) := by decide +kernel
theorem dX10_mayBe_17 : decode cX10_mayBe 17 = .ok (.iload_n 1, 1) := by decide +kernel
theorem dX10_mayBe_18 : decode cX10_mayBe 18 = .ok (.iload_n 2, 1) := by decide +kernel
theorem dX10_mayBe_19 : decode cX10_mayBe 19 = .ok (.invokevirtual 227, 3) := by decide +kernel
theorem dX10_mayBe_22 : decode cX10_mayBe 22 = .ok (.ifCond .eq 7, 3) := by decide +kernel
theorem dX10_mayBe_25 : decode cX10_mayBe 25 = .ok (.iconst 1, 1) := by decide +kernel
theorem dX10_mayBe_26 : decode cX10_mayBe 26 = .ok (.goto 4, 3) := by decide +kernel
theorem dX10_mayBe_29 : decode cX10_mayBe 29 = .ok (.iconst 0, 1) := by decide +kernel
theorem dX10_mayBe_30 : decode cX10_mayBe 30 = .ok (.ireturn, 1) := by decide +kernel
theorem dX10_whoHas_0 : decode cX10_whoHas 0 = .ok (.iconst (-1), 1) := by decide +kernel
theorem dX10_whoHas_1 : decode cX10_whoHas 1 = .ok (.istore_n 2, 1) := by decide +kernel
theorem dX10_whoHas_2 : decode cX10_whoHas 2 = .ok (.iconst 0, 1) := by decide +kernel
theorem dX10_whoHas_3 : decode cX10_whoHas 3 = .ok (.istore_n 3, 1) := by decide +kernel
theorem dX10_whoHas_4 : decode cX10_whoHas 4 = .ok (.iload_n 3, 1) := by decide +kernel
theorem dX10_whoHas_5 : decode cX10_whoHas 5 = .ok (.aload_n 0, 1) := by decide +kernel
theorem dX10_whoHas_6 : decode cX10_whoHas 6 = .ok (.getfield 137, 3) := by decide +kernel
theorem dX10_whoHas_9 : decode cX10_whoHas 9 = .ok (.if_icmp .ge 27, 3) := by decide +kernel
theorem dX10_whoHas_12 : decode cX10_whoHas 12 = .ok (.aload_n 0, 1) := by decide +kernel
theorem dX10_whoHas_13 : decode cX10_whoHas 13 = .ok (.getfield 50, 3) := by decide +kernel
theorem dX10_whoHas_16 : decode cX10_whoHas 16 = .ok (.iload_n 3, 1) := by decide +kernel
theorem dX10_whoHas_17 : decode cX10_whoHas 17 = .ok (.iaload, 1) := by decide +kernel
theorem dX10_whoHas_18 : decode cX10_whoHas 18 = .ok (.iload_n 1, 1) := by decide +kernel
theorem dX10_whoHas_19 : decode cX10_whoHas 19 = .ok (.iconst 1, 1) := by decide +kernel
theorem dX10_whoHas_20 : decode cX10_whoHas 20 = .ok (.iadd, 1) := by decide +kernel
theorem dX10_whoHas_21 : decode cX10_whoHas 21 = .ok (.if_icmp .ne 7, 3) := by decide +kernel
theorem dX10_whoHas_24 : decode cX10_whoHas 24 = .ok (.iload_n 3, 1) := by decide +kernel
theorem dX10_whoHas_25 : decode cX10_whoHas 25 = .ok (.goto 4, 3) := by decide +kernel
theorem dX10_whoHas_28 : decode cX10_whoHas 28 = .ok (.iload_n 2, 1) := by decide +kernel
theorem dX10_whoHas_29 : decode cX10_whoHas 29 = .ok (.istore_n 2, 1) := by decide +kernel
theorem dX10_whoHas_30 : decode cX10_whoHas 30 = .ok (.iinc 3 1, 3) := by decide +kernel
theorem dX10_whoHas_33 : decode cX10_whoHas 33 = .ok (.goto (-29), 3) := by decide +kernel
theorem dX10_whoHas_36 : decode cX10_whoHas 36 = .ok (.iload_n 2, 1) := by decide +kernel
theorem dX10_whoHas_37 : decode cX10_whoHas 37 = .ok (.ireturn, 1) := by decide +kernel
theorem dX10_isRow_0 : decode cX10_isRow 0 = .ok (.iconst 0, 1) := by decide +kernel
theorem dX10_isRow_1 : decode cX10_isRow 1 = .ok (.istore_n 1, 1) := by decide +kernel
theorem dX10_isRow_2 : decode cX10_isRow 2 = .ok (.iconst 0, 1) := by decide +kernel
theorem dX10_isRow_3 : decode cX10_isRow 3 = .ok (.istore_n 2, 1) := by decide +kernel
theorem dX10_isRow_4 : decode cX10_isRow 4 = .ok (.iload_n 2, 1) := by decide +kernel
theorem dX10_isRow_5 : decode cX10_isRow 5 = .ok (.aload_n 0, 1) := by decide +kernel
theorem dX10_isRow_6 : decode cX10_isRow 6 = .ok (.getfield 137, 3) := by decide +kernel
theorem dX10_isRow_9 : decode cX10_isRow 9 = .ok (.if_icmp .ge 47, 3) := by decide +kernel
theorem dX10_isRow_12 : decode cX10_isRow 12 = .ok (.aload_n 0, 1) := by decide +kernel
theorem dX10_isRow_13 : decode cX10_isRow 13 = .ok (.getfield 50, 3) := by decide +kernel
theorem dX10_isRow_16 : decode cX10_isRow 16 = .ok (.iload_n 2, 1) := by decide +kernel
theorem dX10_isRow_17 : decode cX10_isRow 17 = .ok (.iaload, 1) := by decide +kernel
theorem dX10_isRow_18 : decode cX10_isRow 18 = .ok (.iconst 1, 1) := by decide +kernel
theorem dX10_isRow_19 : decode cX10_isRow 19 = .ok (.isub, 1) := by decide +kernel
theorem dX10_isRow_20 : decode cX10_isRow 20 = .ok (.istore_n 3, 1) := by decide +kernel
theorem dX10_isRow_21 : decode cX10_isRow 21 = .ok (.iload_n 3, 1) := by decide +kernel
theorem dX10_isRow_22 : decode cX10_isRow 22 = .ok (.ifCond .lt 28, 3) := by decide +kernel
theorem dX10_isRow_25 : decode cX10_isRow 25 = .ok (.aload_n 0, 1) := by decide +kernel
theorem dX10_isRow_26 : decode cX10_isRow 26 = .ok (.iload_n 2, 1) := by decide +kernel
theorem dX10_isRow_27 : decode cX10_isRow 27 = .ok (.iload_n 3, 1) := by decide +kernel
theorem dX10_isRow_28 : decode cX10_isRow 28 = .ok (.invokevirtual 230, 3) := by decide +kernel
theorem dX10_isRow_31 : decode cX10_isRow 31 = .ok (.ifCond .eq 11, 3) := by decide +kernel
theorem dX10_isRow_34 : decode cX10_isRow 34 = .ok (.iload_n 1, 1) := by decide +kernel
theorem dX10_isRow_35 : decode cX10_isRow 35 = .ok (.iload_n 3, 1) := by decide +kernel
theorem dX10_isRow_36 : decode cX10_isRow 36 = .ok (.invokestatic 183, 3) := by decide +kernel
theorem dX10_isRow_39 : decode cX10_isRow 39 = .ok (.ifCond .eq 5, 3) := by decide +kernel
theorem dX10_isRow_42 : decode cX10_isRow 42 = .ok (.iconst 0, 1) := by decide +kernel
theorem dX10_isRow_43 : decode cX10_isRow 43 = .ok (.ireturn, 1) := by decide +kernel
theorem dX10_isRow_44 : decode cX10_isRow 44 = .ok (.iload_n 1, 1) := by decide +kernel
theorem dX10_isRow_45 : decode cX10_isRow 45 = .ok (.iconst 1, 1) := by decide +kernel
theorem dX10_isRow_46 : decode cX10_isRow 46 = .ok (.iload_n 3, 1) := by decide +kernel
theorem dX10_isRow_47 : decode cX10_isRow 47 = .ok (.ishl, 1) := by decide +kernel
theorem dX10_isRow_48 : decode cX10_isRow 48 = .ok (.ior, 1) := by decide +kernel
theorem dX10_isRow_49 : decode cX10_isRow 49 = .ok (.istore_n 1, 1) := by decide +kernel
theorem dX10_isRow_50 : decode cX10_isRow 50 = .ok (.iinc 2 1, 3) := by decide +kernel
theorem dX10_isRow_53 : decode cX10_isRow 53 = .ok (.goto (-49), 3) := by decide +kernel
theorem dX10_isRow_56 : decode cX10_isRow 56 = .ok (.iconst 1, 1) := by decide +kernel
theorem dX10_isRow_57 : decode cX10_isRow 57 = .ok (.ireturn, 1) := by decide +kernel
theorem dX10_wouldLeave_0 : decode cX10_wouldLeave 0 = .ok (.aload_n 0, 1) := by decide +kernel
theorem dX10_wouldLeave_1 : decode cX10_wouldLeave 1 = .ok (.getfield 50, 3) := by decide +kernel
theorem dX10_wouldLeave_4 : decode cX10_wouldLeave 4 = .ok (.iload_n 1, 1) := by decide +kernel
theorem dX10_wouldLeave_5 : decode cX10_wouldLeave 5 = .ok (.iaload, 1) := by decide +kernel
theorem dX10_wouldLeave_6 : decode cX10_wouldLeave 6 = .ok (.iconst 1, 1) := by decide +kernel
theorem dX10_wouldLeave_7 : decode cX10_wouldLeave 7 = .ok (.isub, 1) := by decide +kernel
theorem dX10_wouldLeave_8 : decode cX10_wouldLeave 8 = .ok (.istore_n 3, 1) := by decide +kernel
theorem dX10_wouldLeave_9 : decode cX10_wouldLeave 9 = .ok (.aload_n 0, 1) := by decide +kernel
theorem dX10_wouldLeave_10 : decode cX10_wouldLeave 10 = .ok (.iload_n 2, 1) := by decide +kernel
theorem dX10_wouldLeave_11 : decode cX10_wouldLeave 11 = .ok (.invokevirtual 233, 3) := by decide +kernel
theorem dX10_wouldLeave_14 : decode cX10_wouldLeave 14 = .ok (.istore 4, 2) := by decide +kernel
theorem dX10_wouldLeave_16 : decode cX10_wouldLeave 16 = .ok (.aload_n 0, 1) := by decide +kernel
theorem dX10_wouldLeave_17 : decode cX10_wouldLeave 17 = .ok (.iload_n 1, 1) := by decide +kernel
theorem dX10_wouldLeave_18 : decode cX10_wouldLeave 18 = .ok (.iload_n 2, 1) := by decide +kernel
theorem dX10_wouldLeave_19 : decode cX10_wouldLeave 19 = .ok (.invokevirtual 230, 3) := by decide +kernel
theorem dX10_wouldLeave_22 : decode cX10_wouldLeave 22 = .ok (.ifCond .eq 41, 3) := by decide +kernel
theorem dX10_wouldLeave_25 : decode cX10_wouldLeave 25 = .ok (.iload_n 3, 1) := by decide +kernel
theorem dX10_wouldLeave_26 : decode cX10_wouldLeave 26 = .ok (.iload_n 2, 1) := by decide +kernel
theorem dX10_wouldLeave_27 : decode cX10_wouldLeave 27 = .ok (.if_icmp .eq 36, 3) := by decide +kernel
theorem dX10_wouldLeave_30 : decode cX10_wouldLeave 30 = .ok (.iload_n 3, 1) := by decide +kernel
theorem dX10_wouldLeave_31 : decode cX10_wouldLeave 31 = .ok (.ifCond .lt 12, 3) := by decide +kernel
theorem dX10_wouldLeave_34 : decode cX10_wouldLeave 34 = .ok (.aload_n 0, 1) := by decide +kernel
theorem dX10_wouldLeave_35 : decode cX10_wouldLeave 35 = .ok (.iload_n 2, 1) := by decide +kernel
theorem dX10_wouldLeave_36 : decode cX10_wouldLeave 36 = .ok (.iload_n 3, 1) := by decide +kernel
theorem dX10_wouldLeave_37 : decode cX10_wouldLeave 37 = .ok (.invokevirtual 236, 3) := by decide +kernel
theorem dX10_wouldLeave_40 : decode cX10_wouldLeave 40 = .ok (.ifCond .eq 23, 3) := by decide +kernel
theorem dX10_wouldLeave_43 : decode cX10_wouldLeave 43 = .ok (.iload 4, 2) := by decide +kernel
theorem dX10_wouldLeave_45 : decode cX10_wouldLeave 45 = .ok (.iconst (-1), 1) := by decide +kernel
theorem dX10_wouldLeave_46 : decode cX10_wouldLeave 46 = .ok (.if_icmp .eq 13, 3) := by decide +kernel
theorem dX10_wouldLeave_49 : decode cX10_wouldLeave 49 = .ok (.aload_n 0, 1) := by decide +kernel
theorem dX10_wouldLeave_50 : decode cX10_wouldLeave 50 = .ok (.iload_n 1, 1) := by decide +kernel
theorem dX10_wouldLeave_51 : decode cX10_wouldLeave 51 = .ok (.iload 4, 2) := by decide +kernel
theorem dX10_wouldLeave_53 : decode cX10_wouldLeave 53 = .ok (.invokevirtual 236, 3) := by decide +kernel
theorem dX10_wouldLeave_56 : decode cX10_wouldLeave 56 = .ok (.ifCond .eq 7, 3) := by decide +kernel
theorem dX10_wouldLeave_59 : decode cX10_wouldLeave 59 = .ok (.iconst 1, 1) := by decide +kernel
theorem dX10_wouldLeave_60 : decode cX10_wouldLeave 60 = .ok (.goto 4, 3) := by decide +kernel
theorem dX10_wouldLeave_63 : decode cX10_wouldLeave 63 = .ok (.iconst 0, 1) := by decide +kernel
theorem dX10_wouldLeave_64 : decode cX10_wouldLeave 64 = .ok (.ireturn, 1) := by decide +kernel
theorem dX10_isLasting_0 : decode cX10_isLasting 0 = .ok (.aload_n 0, 1) := by decide +kernel
theorem dX10_isLasting_1 : decode cX10_isLasting 1 = .ok (.invokevirtual 239, 3) := by decide +kernel
theorem dX10_isLasting_4 : decode cX10_isLasting 4 = .ok (.istore_n 1, 1) := by decide +kernel
theorem dX10_isLasting_5 : decode cX10_isLasting 5 = .ok (.iconst 0, 1) := by decide +kernel
theorem dX10_isLasting_6 : decode cX10_isLasting 6 = .ok (.istore_n 2, 1) := by decide +kernel
theorem dX10_isLasting_7 : decode cX10_isLasting 7 = .ok (.iload_n 2, 1) := by decide +kernel
theorem dX10_isLasting_8 : decode cX10_isLasting 8 = .ok (.aload_n 0, 1) := by decide +kernel
theorem dX10_isLasting_9 : decode cX10_isLasting 9 = .ok (.getfield 137, 3) := by decide +kernel
theorem dX10_isLasting_12 : decode cX10_isLasting 12 = .ok (.if_icmp .ge 51, 3) := by decide +kernel
theorem dX10_isLasting_15 : decode cX10_isLasting 15 = .ok (.iload_n 1, 1) := by decide +kernel
theorem dX10_isLasting_16 : decode cX10_isLasting 16 = .ok (.ifCond .eq 47, 3) := by decide +kernel
theorem dX10_isLasting_19 : decode cX10_isLasting 19 = .ok (.aload_n 0, 1) := by decide +kernel
theorem dX10_isLasting_20 : decode cX10_isLasting 20 = .ok (.getfield 137, 3) := by decide +kernel
theorem dX10_isLasting_23 : decode cX10_isLasting 23 = .ok (.istore_n 3, 1) := by decide +kernel
theorem dX10_isLasting_24 : decode cX10_isLasting 24 = .ok (.iload_n 3, 1) := by decide +kernel
theorem dX10_isLasting_25 : decode cX10_isLasting 25 = .ok (.aload_n 0, 1) := by decide +kernel
theorem dX10_isLasting_26 : decode cX10_isLasting 26 = .ok (.getfield 140, 3) := by decide +kernel
theorem dX10_isLasting_29 : decode cX10_isLasting 29 = .ok (.if_icmp .ge 28, 3) := by decide +kernel
theorem dX10_isLasting_32 : decode cX10_isLasting 32 = .ok (.iload_n 1, 1) := by decide +kernel
theorem dX10_isLasting_33 : decode cX10_isLasting 33 = .ok (.ifCond .eq 16, 3) := by decide +kernel
theorem dX10_isLasting_36 : decode cX10_isLasting 36 = .ok (.aload_n 0, 1) := by decide +kernel
