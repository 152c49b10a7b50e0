theorem dX7_want_6 : decode cX7_want 6 = .ok (.iconst 0, 1) := by decide +kernel
theorem dX7_want_7 : decode cX7_want 7 = .ok (.iload_n 1, 1) := by decide +kernel
theorem dX7_want_8 : decode cX7_want 8 = .ok (.iastore, 1) := by decide +kernel
theorem dX7_want_9 : decode cX7_want 9 = .ok (.iload_n 2, 1) := by decide +kernel
theorem dX7_want_10 : decode cX7_want 10 = .ok (.ifCond .le 216, 3) := by decide +kernel
theorem dX7_want_13 : decode cX7_want 13 = .ok (.aload_n 0, 1) := by decide +kernel
theorem dX7_want_14 : decode cX7_want 14 = .ok (.getfield 59, 3) := by decide +kernel
theorem dX7_want_17 : decode cX7_want 17 = .ok (.iload_n 2, 1) := by decide +kernel
theorem dX7_want_18 : decode cX7_want 18 = .ok (.iconst 1, 1) := by decide +kernel
theorem dX7_want_19 : decode cX7_want 19 = .ok (.isub, 1) := by decide +kernel
theorem dX7_want_20 : decode cX7_want 20 = .ok (.iaload, 1) := by decide +kernel
theorem dX7_want_21 : decode cX7_want 21 = .ok (.istore_n 3, 1) := by decide +kernel
theorem dX7_want_22 : decode cX7_want 22 = .ok (.aload_n 0, 1) := by decide +kernel
theorem dX7_want_23 : decode cX7_want 23 = .ok (.getfield 44, 3) := by decide +kernel
theorem dX7_want_26 : decode cX7_want 26 = .ok (.iload_n 3, 1) := by decide +kernel
theorem dX7_want_27 : decode cX7_want 27 = .ok (.iaload, 1) := by decide +kernel
theorem dX7_want_28 : decode cX7_want 28 = .ok (.ifCond .le 9, 3) := by decide +kernel
theorem dX7_want_31 : decode cX7_want 31 = .ok (.iinc 2 (-1), 3) := by decide +kernel
theorem dX7_want_34 : decode cX7_want 34 = .ok (.goto (-25), 3) := by decide +kernel
theorem dX7_want_37 : decode cX7_want 37 = .ok (.aload_n 0, 1) := by decide +kernel
theorem dX7_want_38 : decode cX7_want 38 = .ok (.dup, 1) := by decide +kernel
theorem dX7_want_39 : decode cX7_want 39 = .ok (.getfield 131, 3) := by decide +kernel
theorem dX7_want_42 : decode cX7_want 42 = .ok (.aload_n 0, 1) := by decide +kernel
theorem dX7_want_43 : decode cX7_want 43 = .ok (.getfield 62, 3) := by decide +kernel
theorem dX7_want_46 : decode cX7_want 46 = .ok (.iload_n 3, 1) := by decide +kernel
theorem dX7_want_47 : decode cX7_want 47 = .ok (.baload, 1) := by decide +kernel
theorem dX7_want_48 : decode cX7_want 48 = .ok (.ifCond .ne 25, 3) := by decide +kernel
theorem dX7_want_51 : decode cX7_want 51 = .ok (.aload_n 0, 1) := by decide +kernel
theorem dX7_want_52 : decode cX7_want 52 = .ok (.getfield 38, 3) := by decide +kernel
theorem dX7_want_55 : decode cX7_want 55 = .ok (.iconst 4, 1) := by decide +kernel
theorem dX7_want_56 : decode cX7_want 56 = .ok (.aload_n 0, 1) := by decide +kernel
theorem dX7_want_57 : decode cX7_want 57 = .ok (.getfield 56, 3) := by decide +kernel
theorem dX7_want_60 : decode cX7_want 60 = .ok (.iload_n 3, 1) := by decide +kernel
theorem dX7_want_61 : decode cX7_want 61 = .ok (.iaload, 1) := by decide +kernel
theorem dX7_want_62 : decode cX7_want 62 = .ok (.imul, 1) := by decide +kernel
theorem dX7_want_63 : decode cX7_want 63 = .ok (.iaload, 1) := by decide +kernel
theorem dX7_want_64 : decode cX7_want 64 = .ok (.bipush 10, 2) := by decide +kernel
theorem dX7_want_66 : decode cX7_want 66 = .ok (.if_icmp .ne 7, 3) := by decide +kernel
theorem dX7_want_69 : decode cX7_want 69 = .ok (.iconst 1, 1) := by decide +kernel
theorem dX7_want_70 : decode cX7_want 70 = .ok (.goto 4, 3) := by decide +kernel
theorem dX7_want_73 : decode cX7_want 73 = .ok (.iconst 0, 1) := by decide +kernel
theorem dX7_want_74 : decode cX7_want 74 = .ok (.iadd, 1) := by decide +kernel
theorem dX7_want_75 : decode cX7_want 75 = .ok (.putfield 131, 3) := by decide +kernel
theorem dX7_want_78 : decode cX7_want 78 = .ok (.aload_n 0, 1) := by decide +kernel
theorem dX7_want_79 : decode cX7_want 79 = .ok (.getfield 62, 3) := by decide +kernel
theorem dX7_want_82 : decode cX7_want 82 = .ok (.iload_n 3, 1) := by decide +kernel
theorem dX7_want_83 : decode cX7_want 83 = .ok (.iconst 1, 1) := by decide +kernel
theorem dX7_want_84 : decode cX7_want 84 = .ok (.bastore, 1) := by decide +kernel
theorem dX7_want_85 : decode cX7_want 85 = .ok (.aload_n 0, 1) := by decide +kernel
theorem dX7_want_86 : decode cX7_want 86 = .ok (.getfield 53, 3) := by decide +kernel
theorem dX7_want_89 : decode cX7_want 89 = .ok (.iload_n 3, 1) := by decide +kernel
theorem dX7_want_90 : decode cX7_want 90 = .ok (.iaload, 1) := by decide +kernel
theorem dX7_want_91 : decode cX7_want 91 = .ok (.istore 4, 2) := by decide +kernel
theorem dX7_want_93 : decode cX7_want 93 = .ok (.aload_n 0, 1) := by decide +kernel
theorem dX7_want_94 : decode cX7_want 94 = .ok (.getfield 50, 3) := by decide +kernel
theorem dX7_want_97 : decode cX7_want 97 = .ok (.iload_n 3, 1) := by decide +kernel
theorem dX7_want_98 : decode cX7_want 98 = .ok (.iaload, 1) := by decide +kernel
theorem dX7_want_99 : decode cX7_want 99 = .ok (.istore 5, 2) := by decide +kernel
theorem dX7_want_101 : decode cX7_want 101 = .ok (.iload 4, 2) := by decide +kernel
theorem dX7_want_103 : decode cX7_want 103 = .ok (.ifCond .lt 27, 3) := by decide +kernel
theorem dX7_want_106 : decode cX7_want 106 = .ok (.aload_n 0, 1) := by decide +kernel
theorem dX7_want_107 : decode cX7_want 107 = .ok (.getfield 44, 3) := by decide +kernel
theorem dX7_want_110 : decode cX7_want 110 = .ok (.iload 4, 2) := by decide +kernel
theorem dX7_want_112 : decode cX7_want 112 = .ok (.iaload, 1) := by decide +kernel
theorem dX7_want_113 : decode cX7_want 113 = .ok (.ifCond .ne 17, 3) := by decide +kernel
theorem dX7_want_116 : decode cX7_want 116 = .ok (.aload_n 0, 1) := by decide +kernel
theorem dX7_want_117 : decode cX7_want 117 = .ok (.getfield 59, 3) := by decide +kernel
theorem dX7_want_120 : decode cX7_want 120 = .ok (.iload_n 2, 1) := by decide +kernel
theorem dX7_want_121 : decode cX7_want 121 = .ok (.iload 4, 2) := by decide +kernel
theorem dX7_want_123 : decode cX7_want 123 = .ok (.iastore, 1) := by decide +kernel
theorem dX7_want_124 : decode cX7_want 124 = .ok (.iinc 2 1, 3) := by decide +kernel
theorem dX7_want_127 : decode cX7_want 127 = .ok (.goto 96, 3) := by decide +kernel
theorem dX7_want_130 : decode cX7_want 130 = .ok (.iload 4, 2) := by decide +kernel
theorem dX7_want_132 : decode cX7_want 132 = .ok (.ifCond .lt 29, 3) := by decide +kernel
theorem dX7_want_135 : decode cX7_want 135 = .ok (.aload_n 0, 1) := by decide +kernel
theorem dX7_want_136 : decode cX7_want 136 = .ok (.getfield 44, 3) := by decide +kernel
theorem dX7_want_139 : decode cX7_want 139 = .ok (.iload 4, 2) := by decide +kernel
theorem dX7_want_141 : decode cX7_want 141 = .ok (.iaload, 1) := by decide +kernel
theorem dX7_want_142 : decode cX7_want 142 = .ok (.iconst 2, 1) := by decide +kernel
theorem dX7_want_143 : decode cX7_want 143 = .ok (.if_icmp .ne 18, 3) := by decide +kernel
theorem dX7_want_146 : decode cX7_want 146 = .ok (.aload_n 0, 1) := by decide +kernel
theorem dX7_want_147 : decode cX7_want 147 = .ok (.iload_n 3, 1) := by decide +kernel
theorem dX7_want_148 : decode cX7_want 148 = .ok (.aload_n 0, 1) := by decide +kernel
theorem dX7_want_149 : decode cX7_want 149 = .ok (.getfield 47, 3) := by decide +kernel
theorem dX7_want_152 : decode cX7_want 152 = .ok (.iload 4, 2) := by decide +kernel
theorem dX7_want_154 : decode cX7_want 154 = .ok (.laload, 1) := by decide +kernel
theorem dX7_want_155 : decode cX7_want 155 = .ok (.invokevirtual 134, 3) := by decide +kernel
theorem dX7_want_158 : decode cX7_want 158 = .ok (.goto 65, 3) := by decide +kernel
theorem dX7_want_161 : decode cX7_want 161 = .ok (.aload_n 0, 1) := by decide +kernel
theorem dX7_want_162 : decode cX7_want 162 = .ok (.getfield 44, 3) := by decide +kernel
theorem dX7_want_165 : decode cX7_want 165 = .ok (.iload 5, 2) := by decide +kernel
theorem dX7_want_167 : decode cX7_want 167 = .ok (.iaload, 1) := by decide +kernel
theorem dX7_want_168 : decode cX7_want 168 = .ok (.ifCond .ne 17, 3) := by decide +kernel
theorem dX7_want_171 : decode cX7_want 171 = .ok (.aload_n 0, 1) := by decide +kernel
theorem dX7_want_172 : decode cX7_want 172 = .ok (.getfield 59, 3) := by decide +kernel
theorem dX7_want_175 : decode cX7_want 175 = .ok (.iload_n 2, 1) := by decide +kernel
theorem dX7_want_176 : decode cX7_want 176 = .ok (.iload 5, 2) := by decide +kernel
theorem dX7_want_178 : decode cX7_want 178 = .ok (.iastore, 1) := by decide +kernel
theorem dX7_want_179 : decode cX7_want 179 = .ok (.iinc 2 1, 3) := by decide +kernel
theorem dX7_want_182 : decode cX7_want 182 = .ok (.goto 41, 3) := by decide +kernel
theorem dX7_want_185 : decode cX7_want 185 = .ok (.aload_n 0, 1) := by decide +kernel
theorem dX7_want_186 : decode cX7_want 186 = .ok (.getfield 44, 3) := by decide +kernel
theorem dX7_want_189 : decode cX7_want 189 = .ok (.iload 5, 2) := by decide +kernel
theorem dX7_want_191 : decode cX7_want 191 = .ok (.iaload, 1) := by decide +kernel
theorem dX7_want_192 : decode cX7_want 192 = .ok (.iconst 2, 1) := by decide +kernel
theorem dX7_want_193 : decode cX7_want 193 = .ok (.if_icmp .ne 18, 3) := by decide +kernel
theorem dX7_want_196 : decode cX7_want 196 = .ok (.aload_n 0, 1) := by decide +kernel
theorem dX7_want_197 : decode cX7_want 197 = .ok (.iload_n 3, 1) := by decide +kernel
theorem dX7_want_198 : decode cX7_want 198 = .ok (.aload_n 0, 1) := by decide +kernel
theorem dX7_want_199 : decode cX7_want 199 = .ok (.getfield 47, 3) := by decide +kernel
theorem dX7_want_202 : decode cX7_want 202 = .ok (.iload 5, 2) := by decide +kernel
theorem dX7_want_204 : decode cX7_want 204 = .ok (.laload, 1) := by decide +kernel
theorem dX7_want_205 : decode cX7_want 205 = .ok (.invokevirtual 134, 3) := by decide +kernel
theorem dX7_want_208 : decode cX7_want 208 = .ok (.goto 15, 3) := by decide +kernel
theorem dX7_want_211 : decode cX7_want 211 = .ok (.aload_n 0, 1) := by decide +kernel
theorem dX7_want_212 : decode cX7_want 212 = .ok (.iload_n 3, 1) := by decide +kernel
theorem dX7_want_213 : decode cX7_want 213 = .ok (.aload_n 0, 1) := by decide +kernel
theorem dX7_want_214 : decode cX7_want 214 = .ok (.getfield 47, 3) := by decide +kernel
theorem dX7_want_217 : decode cX7_want 217 = .ok (.iload 5, 2) := by decide +kernel
theorem dX7_want_219 : decode cX7_want 219 = .ok (.laload, 1) := by decide +kernel
theorem dX7_want_220 : decode cX7_want 220 = .ok (.invokevirtual 138, 3) := by decide +kernel
theorem dX7_want_223 : decode cX7_want 223 = .ok (.goto (-214), 3) := by decide +kernel
theorem dX7_want_226 : decode cX7_want 226 = .ok (.return_, 1) := by decide +kernel
theorem dX7_fail_0 : decode cX7_fail 0 = .ok (.aload_n 0, 1) := by decide +kernel
theorem dX7_fail_1 : decode cX7_fail 1 = .ok (.getfield 44, 3) := by decide +kernel
theorem dX7_fail_4 : decode cX7_fail 4 = .ok (.iload_n 1, 1) := by decide +kernel
theorem dX7_fail_5 : decode cX7_fail 5 = .ok (.iconst 2, 1) := by decide +kernel
theorem dX7_fail_6 : decode cX7_fail 6 = .ok (.iastore, 1) := by decide +kernel
theorem dX7_fail_7 : decode cX7_fail 7 = .ok (.aload_n 0, 1) := by decide +kernel
theorem dX7_fail_8 : decode cX7_fail 8 = .ok (.getfield 47, 3) := by decide +kernel
theorem dX7_fail_11 : decode cX7_fail 11 = .ok (.iload_n 1, 1) := by decide +kernel
theorem dX7_fail_12 : decode cX7_fail 12 = .ok (.lload_n 2, 1) := by decide +kernel
theorem dX7_fail_13 : decode cX7_fail 13 = .ok (.lastore, 1) := by decide +kernel
theorem dX7_fail_14 : decode cX7_fail 14 = .ok (.return_, 1) := by decide +kernel
theorem dX7_workOne_0 : decode cX7_workOne 0 = .ok (.aload_n 0, 1) := by decide +kernel
theorem dX7_workOne_1 : decode cX7_workOne 1 = .ok (.getfield 56, 3) := by decide +kernel
theorem dX7_workOne_4 : decode cX7_workOne 4 = .ok (.iload_n 1, 1) := by decide +kernel
theorem dX7_workOne_5 : decode cX7_workOne 5 = .ok (.iaload, 1) := by decide +kernel
theorem dX7_workOne_6 : decode cX7_workOne 6 = .ok (.istore 4, 2) := by decide +kernel
theorem dX7_workOne_8 : decode cX7_workOne 8 = .ok (.aload_n 0, 1) := by decide +kernel
theorem dX7_workOne_9 : decode cX7_workOne 9 = .ok (.getfield 38, 3) := by decide +kernel
theorem dX7_workOne_12 : decode cX7_workOne 12 = .ok (.iconst 4, 1) := by decide +kernel
theorem dX7_workOne_13 : decode cX7_workOne 13 = .ok (.iload 4, 2) := by decide +kernel
theorem dX7_workOne_15 : decode cX7_workOne 15 = .ok (.imul, 1) := by decide +kernel
theorem dX7_workOne_16 : decode cX7_workOne 16 = .ok (.iaload, 1) := by decide +kernel
theorem dX7_workOne_17 : decode cX7_workOne 17 = .ok (.bipush 10, 2) := by decide +kernel
theorem dX7_workOne_19 : decode cX7_workOne 19 = .ok (.if_icmp .ne 43, 3) := by decide +kernel
theorem dX7_workOne_22 : decode cX7_workOne 22 = .ok (.aload_n 0, 1) := by decide +kernel
theorem dX7_workOne_23 : decode cX7_workOne 23 = .ok (.getfield 47, 3) := by decide +kernel
theorem dX7_workOne_26 : decode cX7_workOne 26 = .ok (.iload_n 1, 1) := by decide +kernel
theorem dX7_workOne_27 : decode cX7_workOne 27 = .ok (.aload_n 0, 1) := by decide +kernel
theorem dX7_workOne_28 : decode cX7_workOne 28 = .ok (.getfield 53, 3) := by decide +kernel
theorem dX7_workOne_31 : decode cX7_workOne 31 = .ok (.iload_n 1, 1) := by decide +kernel
theorem dX7_workOne_32 : decode cX7_workOne 32 = .ok (.iaload, 1) := by decide +kernel
theorem dX7_workOne_33 : decode cX7_workOne 33 = .ok (.ifCond .ge 7, 3) := by decide +kernel
theorem dX7_workOne_36 : decode cX7_workOne 36 = .ok (.lconst 0, 1) := by decide +kernel
theorem dX7_workOne_37 : decode cX7_workOne 37 = .ok (.goto 14, 3) := by decide +kernel
theorem dX7_workOne_40 : decode cX7_workOne 40 = .ok (.aload_n 0, 1) := by decide +kernel
theorem dX7_workOne_41 : decode cX7_workOne 41 = .ok (.getfield 47, 3) := by decide +kernel
theorem dX7_workOne_44 : decode cX7_workOne 44 = .ok (.aload_n 0, 1) := by decide +kernel
theorem dX7_workOne_45 : decode cX7_workOne 45 = .ok (.getfield 53, 3) := by decide +kernel
theorem dX7_workOne_48 : decode cX7_workOne 48 = .ok (.iload_n 1, 1) := by decide +kernel
theorem dX7_workOne_49 : decode cX7_workOne 49 = .ok (.iaload, 1) := by decide +kernel
theorem dX7_workOne_50 : decode cX7_workOne 50 = .ok (.laload, 1) := by decide +kernel
theorem dX7_workOne_51 : decode cX7_workOne 51 = .ok (.lload_n 2, 1) := by decide +kernel
theorem dX7_workOne_52 : decode cX7_workOne 52 = .ok (.ladd, 1) := by decide +kernel
theorem dX7_workOne_53 : decode cX7_workOne 53 = .ok (.lastore, 1) := by decide +kernel
theorem dX7_workOne_54 : decode cX7_workOne 54 = .ok (.aload_n 0, 1) := by decide +kernel
theorem dX7_workOne_55 : decode cX7_workOne 55 = .ok (.getfield 44, 3) := by decide +kernel
theorem dX7_workOne_58 : decode cX7_workOne 58 = .ok (.iload_n 1, 1) := by decide +kernel
theorem dX7_workOne_59 : decode cX7_workOne 59 = .ok (.iconst 1, 1) := by decide +kernel
theorem dX7_workOne_60 : decode cX7_workOne 60 = .ok (.iastore, 1) := by decide +kernel
theorem dX7_workOne_61 : decode cX7_workOne 61 = .ok (.return_, 1) := by decide +kernel
theorem dX7_workOne_62 : decode cX7_workOne 62 = .ok (.lload_n 2, 1) := by decide +kernel
theorem dX7_workOne_63 : decode cX7_workOne 63 = .ok (.lstore 5, 2) := by decide +kernel
theorem dX7_workOne_65 : decode cX7_workOne 65 = .ok (.iconst 0, 1) := by decide +kernel
theorem dX7_workOne_66 : decode cX7_workOne 66 = .ok (.istore 7, 2) := by decide +kernel
theorem dX7_workOne_68 : decode cX7_workOne 68 = .ok (.iload 7, 2) := by decide +kernel
theorem dX7_workOne_70 : decode cX7_workOne 70 = .ok (.aload_n 0, 1) := by decide +kernel
theorem dX7_workOne_71 : decode cX7_workOne 71 = .ok (.getfield 35, 3) := by decide +kernel
theorem dX7_workOne_74 : decode cX7_workOne 74 = .ok (.iload 4, 2) := by decide +kernel
theorem dX7_workOne_76 : decode cX7_workOne 76 = .ok (.iaload, 1) := by decide +kernel
theorem dX7_workOne_77 : decode cX7_workOne 77 = .ok (.if_icmp .ge 162, 3) := by decide +kernel
theorem dX7_workOne_80 : decode cX7_workOne 80 = .ok (.aload_n 0, 1) := by decide +kernel
theorem dX7_workOne_81 : decode cX7_workOne 81 = .ok (.dup, 1) := by decide +kernel
theorem dX7_workOne_82 : decode cX7_workOne 82 = .ok (.getfield 131, 3) := by decide +kernel
theorem dX7_workOne_85 : decode cX7_workOne 85 = .ok (.iconst 1, 1) := by decide +kernel
theorem dX7_workOne_86 : decode cX7_workOne 86 = .ok (.iadd, 1) := by decide +kernel
theorem dX7_workOne_87 : decode cX7_workOne 87 = .ok (.putfield 131, 3) := by decide +kernel
theorem dX7_workOne_90 : decode cX7_workOne 90 = .ok (.aload_n 0, 1) := by decide +kernel
theorem dX7_workOne_91 : decode cX7_workOne 91 = .ok (.getfield 41, 3) := by decide +kernel
theorem dX7_workOne_94 : decode cX7_workOne 94 = .ok (.iconst 4, 1) := by decide +kernel
theorem dX7_workOne_95 : decode cX7_workOne 95 = .ok (.iload 4, 2) := by decide +kernel
theorem dX7_workOne_97 : decode cX7_workOne 97 = .ok (.imul, 1) := by decide +kernel
theorem dX7_workOne_98 : decode cX7_workOne 98 = .ok (.iload 7, 2) := by decide +kernel
theorem dX7_workOne_100 : decode cX7_workOne 100 = .ok (.iadd, 1) := by decide +kernel
theorem dX7_workOne_101 : decode cX7_workOne 101 = .ok (.laload, 1) := by decide +kernel
theorem dX7_workOne_102 : decode cX7_workOne 102 = .ok (.lstore 8, 2) := by decide +kernel
theorem dX7_workOne_104 : decode cX7_workOne 104 = .ok (.aload_n 0, 1) := by decide +kernel
theorem dX7_workOne_105 : decode cX7_workOne 105 = .ok (.getfield 38, 3) := by decide +kernel
theorem dX7_workOne_108 : decode cX7_workOne 108 = .ok (.iconst 4, 1) := by decide +kernel
theorem dX7_workOne_109 : decode cX7_workOne 109 = .ok (.iload 4, 2) := by decide +kernel
theorem dX7_workOne_111 : decode cX7_workOne 111 = .ok (.imul, 1) := by decide +kernel
theorem dX7_workOne_112 : decode cX7_workOne 112 = .ok (.iload 7, 2) := by decide +kernel
theorem dX7_workOne_114 : decode cX7_workOne 114 = .ok (.iadd, 1) := by decide +kernel
theorem dX7_workOne_115 : decode cX7_workOne 115 = .ok (.iaload, 1) := by decide +kernel
theorem dX7_workOne_116 : decode cX7_workOne 116 = .ok (.istore 10, 2) := by decide +kernel
theorem dX7_workOne_118 : decode cX7_workOne 118 = .ok (.iload 10, 2) := by decide +kernel
theorem dX7_workOne_120 : decode cX7_workOne 120 = .ok (.iconst 2, 1) := by decide +kernel
theorem dX7_workOne_121 : decode cX7_workOne 121 = .ok (.if_icmp .ne 18, 3) := by decide +kernel
theorem dX7_workOne_124 : decode cX7_workOne 124 = .ok (.lload 5, 2) := by decide +kernel
theorem dX7_workOne_126 : decode cX7_workOne 126 = .ok (.lconst 0, 1) := by decide +kernel
theorem dX7_workOne_127 : decode cX7_workOne 127 = .ok (.lcmp, 1) := by decide +kernel
theorem dX7_workOne_128 : decode cX7_workOne 128 = .ok (.ifCond .ne 7, 3) := by decide +kernel
theorem dX7_workOne_131 : decode cX7_workOne 131 = .ok (.iconst 4, 1) := by decide +kernel
theorem dX7_workOne_132 : decode cX7_workOne 132 = .ok (.goto 27, 3) := by decide +kernel
theorem dX7_workOne_135 : decode cX7_workOne 135 = .ok (.iconst 0, 1) := by decide +kernel
theorem dX7_workOne_136 : decode cX7_workOne 136 = .ok (.goto 23, 3) := by decide +kernel
theorem dX7_workOne_139 : decode cX7_workOne 139 = .ok (.iload 10, 2) := by decide +kernel
theorem dX7_workOne_141 : decode cX7_workOne 141 = .ok (.iconst 3, 1) := by decide +kernel
theorem dX7_workOne_142 : decode cX7_workOne 142 = .ok (.if_icmp .ne 16, 3) := by decide +kernel
theorem dX7_workOne_145 : decode cX7_workOne 145 = .ok (.aload_n 0, 1) := by decide +kernel
theorem dX7_workOne_146 : decode cX7_workOne 146 = .ok (.lload 8, 2) := by decide +kernel
theorem dX7_workOne_148 : decode cX7_workOne 148 = .ok (.l2i, 1) := by decide +kernel
theorem dX7_workOne_149 : decode cX7_workOne 149 = .ok (.lload 5, 2) := by decide +kernel
theorem dX7_workOne_151 : decode cX7_workOne 151 = .ok (.l2i, 1) := by decide +kernel
theorem dX7_workOne_152 : decode cX7_workOne 152 = .ok (.invokevirtual 141, 3) := by decide +kernel
theorem dX7_workOne_155 : decode cX7_workOne 155 = .ok (.goto 4, 3) := by decide +kernel
theorem dX7_workOne_158 : decode cX7_workOne 158 = .ok (.iconst 0, 1) := by decide +kernel
theorem dX7_workOne_159 : decode cX7_workOne 159 = .ok (.istore 11, 2) := by decide +kernel
theorem dX7_workOne_161 : decode cX7_workOne 161 = .ok (.iload 11, 2) := by decide +kernel
theorem dX7_workOne_163 : decode cX7_workOne 163 = .ok (.ifCond .le 12, 3) := by decide +kernel
theorem dX7_workOne_166 : decode cX7_workOne 166 = .ok (.aload_n 0, 1) := by decide +kernel
theorem dX7_workOne_167 : decode cX7_workOne 167 = .ok (.iload_n 1, 1) := by decide +kernel
theorem dX7_workOne_168 : decode cX7_workOne 168 = .ok (.iload 11, 2) := by decide +kernel
theorem dX7_workOne_170 : decode cX7_workOne 170 = .ok (.i2l, 1) := by decide +kernel
theorem dX7_workOne_171 : decode cX7_workOne 171 = .ok (.invokevirtual 134, 3) := by decide +kernel
theorem dX7_workOne_174 : decode cX7_workOne 174 = .ok (.return_, 1) := by decide +kernel
theorem dX7_workOne_175 : decode cX7_workOne 175 = .ok (.iload 10, 2) := by decide +kernel
theorem dX7_workOne_177 : decode cX7_workOne 177 = .ok (.ifCond .ne 11, 3) := by decide +kernel
theorem dX7_workOne_180 : decode cX7_workOne 180 = .ok (.lload 5, 2) := by decide +kernel
theorem dX7_workOne_182 : decode cX7_workOne 182 = .ok (.lload 8, 2) := by decide +kernel
theorem dX7_workOne_184 : decode cX7_workOne 184 = .ok (.ladd, 1) := by decide +kernel
theorem dX7_workOne_185 : decode cX7_workOne 185 = .ok (.goto 46, 3) := by decide +kernel
theorem dX7_workOne_188 : decode cX7_workOne 188 = .ok (.iload 10, 2) := by decide +kernel
theorem dX7_workOne_190 : decode cX7_workOne 190 = .ok (.iconst 1, 1) := by decide +kernel
theorem dX7_workOne_191 : decode cX7_workOne 191 = .ok (.if_icmp .ne 11, 3) := by decide +kernel
theorem dX7_workOne_194 : decode cX7_workOne 194 = .ok (.lload 5, 2) := by decide +kernel
theorem dX7_workOne_196 : decode cX7_workOne 196 = .ok (.lload 8, 2) := by decide +kernel
theorem dX7_workOne_198 : decode cX7_workOne 198 = .ok (.lmul, 1) := by decide +kernel
theorem dX7_workOne_199 : decode cX7_workOne 199 = .ok (.goto 32, 3) := by decide +kernel
theorem dX7_workOne_202 : decode cX7_workOne 202 = .ok (.iload 10, 2) := by decide +kernel
theorem dX7_workOne_204 : decode cX7_workOne 204 = .ok (.iconst 2, 1) := by decide +kernel
theorem dX7_workOne_205 : decode cX7_workOne 205 = .ok (.if_icmp .ne 11, 3) := by decide +kernel
theorem dX7_workOne_208 : decode cX7_workOne 208 = .ok (.lload 8, 2) := by decide +kernel
theorem dX7_workOne_210 : decode cX7_workOne 210 = .ok (.lload 5, 2) := by decide +kernel
theorem dX7_workOne_212 : decode cX7_workOne 212 = .ok (.ldiv, 1) := by decide +kernel
theorem dX7_workOne_213 : decode cX7_workOne 213 = .ok (.goto 18, 3) := by decide +kernel
theorem dX7_workOne_216 : decode cX7_workOne 216 = .ok (.aload_n 0, 1) := by decide +kernel
theorem dX7_workOne_217 : decode cX7_workOne 217 = .ok (.getfield 16, 3) := by decide +kernel
theorem dX7_workOne_220 : decode cX7_workOne 220 = .ok (.bipush 16, 2) := by decide +kernel
theorem dX7_workOne_222 : decode cX7_workOne 222 = .ok (.lload 8, 2) := by decide +kernel
theorem dX7_workOne_224 : decode cX7_workOne 224 = .ok (.l2i, 1) := by decide +kernel
theorem dX7_workOne_225 : decode cX7_workOne 225 = .ok (.imul, 1) := by decide +kernel
theorem dX7_workOne_226 : decode cX7_workOne 226 = .ok (.lload 5, 2) := by decide +kernel
theorem dX7_workOne_228 : decode cX7_workOne 228 = .ok (.l2i, 1) := by decide +kernel
theorem dX7_workOne_229 : decode cX7_workOne 229 = .ok (.iadd, 1) := by decide +kernel
theorem dX7_workOne_230 : decode cX7_workOne 230 = .ok (.laload, 1) := by decide +kernel
theorem dX7_workOne_231 : decode cX7_workOne 231 = .ok (.lstore 5, 2) := by decide +kernel
theorem dX7_workOne_233 : decode cX7_workOne 233 = .ok (.iinc 7 1, 3) := by decide +kernel
theorem dX7_workOne_236 : decode cX7_workOne 236 = .ok (.goto (-168), 3) := by decide +kernel
theorem dX7_workOne_239 : decode cX7_workOne 239 = .ok (.aload_n 0, 1) := by decide +kernel
theorem dX7_workOne_240 : decode cX7_workOne 240 = .ok (.getfield 47, 3) := by decide +kernel
theorem dX7_workOne_243 : decode cX7_workOne 243 = .ok (.iload_n 1, 1) := by decide +kernel
theorem dX7_workOne_244 : decode cX7_workOne 244 = .ok (.lload 5, 2) := by decide +kernel
theorem dX7_workOne_246 : decode cX7_workOne 246 = .ok (.lastore, 1) := by decide +kernel
theorem dX7_workOne_247 : decode cX7_workOne 247 = .ok (.aload_n 0, 1) := by decide +kernel
theorem dX7_workOne_248 : decode cX7_workOne 248 = .ok (.getfield 44, 3) := by decide +kernel
theorem dX7_workOne_251 : decode cX7_workOne 251 = .ok (.iload_n 1, 1) := by decide +kernel
theorem dX7_workOne_252 : decode cX7_workOne 252 = .ok (.iconst 1, 1) := by decide +kernel
theorem dX7_workOne_253 : decode cX7_workOne 253 = .ok (.iastore, 1) := by decide +kernel
theorem dX7_workOne_254 : decode cX7_workOne 254 = .ok (.return_, 1) := by decide +kernel
theorem dX7_pickFault_0 : decode cX7_pickFault 0 = .ok (.aload_n 0, 1) := by decide +kernel
theorem dX7_pickFault_1 : decode cX7_pickFault 1 = .ok (.getfield 7, 3) := by decide +kernel
theorem dX7_pickFault_4 : decode cX7_pickFault 4 = .ok (.iload_n 1, 1) := by decide +kernel
theorem dX7_pickFault_5 : decode cX7_pickFault 5 = .ok (.iaload, 1) := by decide +kernel
theorem dX7_pickFault_6 : decode cX7_pickFault 6 = .ok (.ifCond .ne 7, 3) := by decide +kernel
theorem dX7_pickFault_9 : decode cX7_pickFault 9 = .ok (.iconst 1, 1) := by decide +kernel
theorem dX7_pickFault_10 : decode cX7_pickFault 10 = .ok (.goto 40, 3) := by decide +kernel
theorem dX7_pickFault_13 : decode cX7_pickFault 13 = .ok (.aload_n 0, 1) := by decide +kernel
theorem dX7_pickFault_14 : decode cX7_pickFault 14 = .ok (.getfield 7, 3) := by decide +kernel
theorem dX7_pickFault_17 : decode cX7_pickFault 17 = .ok (.iload_n 1, 1) := by decide +kernel
theorem dX7_pickFault_18 : decode cX7_pickFault 18 = .ok (.iaload, 1) := by decide +kernel
theorem dX7_pickFault_19 : decode cX7_pickFault 19 = .ok (.iconst 1, 1) := by decide +kernel
theorem dX7_pickFault_20 : decode cX7_pickFault 20 = .ok (.if_icmp .eq 7, 3) := by decide +kernel
theorem dX7_pickFault_23 : decode cX7_pickFault 23 = .ok (.iconst 2, 1) := by decide +kernel
theorem dX7_pickFault_24 : decode cX7_pickFault 24 = .ok (.goto 26, 3) := by decide +kernel
theorem dX7_pickFault_27 : decode cX7_pickFault 27 = .ok (.iload_n 2, 1) := by decide +kernel
theorem dX7_pickFault_28 : decode cX7_pickFault 28 = .ok (.i2l, 1) := by decide +kernel
theorem dX7_pickFault_29 : decode cX7_pickFault 29 = .ok (.lconst 0, 1) := by decide +kernel
theorem dX7_pickFault_30 : decode cX7_pickFault 30 = .ok (.aload_n 0, 1) := by decide +kernel
theorem dX7_pickFault_31 : decode cX7_pickFault 31 = .ok (.getfield 13, 3) := by decide +kernel
theorem dX7_pickFault_34 : decode cX7_pickFault 34 = .ok (.iload_n 1, 1) := by decide +kernel
theorem dX7_pickFault_35 : decode cX7_pickFault 35 = .ok (.iaload, 1) := by decide +kernel
theorem dX7_pickFault_36 : decode cX7_pickFault 36 = .ok (.iconst 1, 1) := by decide +kernel
theorem dX7_pickFault_37 : decode cX7_pickFault 37 = .ok (.isub, 1) := by decide +kernel
theorem dX7_pickFault_38 : decode cX7_pickFault 38 = .ok (.i2l, 1) := by decide +kernel
theorem dX7_pickFault_39 : decode cX7_pickFault 39 = .ok (.invokestatic 93, 3) := by decide +kernel
theorem dX7_pickFault_42 : decode cX7_pickFault 42 = .ok (.ifCond .eq 7, 3) := by decide +kernel
theorem dX7_pickFault_45 : decode cX7_pickFault 45 = .ok (.iconst 0, 1) := by decide +kernel
theorem dX7_pickFault_46 : decode cX7_pickFault 46 = .ok (.goto 4, 3) := by decide +kernel
theorem dX7_pickFault_49 : decode cX7_pickFault 49 = .ok (.iconst 3, 1) := by decide +kernel
theorem dX7_pickFault_50 : decode cX7_pickFault 50 = .ok (.ireturn, 1) := by decide +kernel
theorem dX7_isEnded_0 : decode cX7_isEnded 0 = .ok (.aload_n 0, 1) := by decide +kernel
theorem dX7_isEnded_1 : decode cX7_isEnded 1 = .ok (.getfield 145, 3) := by decide +kernel
theorem dX7_isEnded_4 : decode cX7_isEnded 4 = .ok (.ifCond .ne 10, 3) := by decide +kernel
theorem dX7_isEnded_7 : decode cX7_isEnded 7 = .ok (.aload_n 0, 1) := by decide +kernel
theorem dX7_isEnded_8 : decode cX7_isEnded 8 = .ok (.getfield 149, 3) := by decide +kernel
theorem dX7_isEnded_11 : decode cX7_isEnded 11 = .ok (.ifCond .le 7, 3) := by decide +kernel
theorem dX7_isEnded_14 : decode cX7_isEnded 14 = .ok (.iconst 1, 1) := by decide +kernel
theorem dX7_isEnded_15 : decode cX7_isEnded 15 = .ok (.goto 4, 3) := by decide +kernel
theorem dX7_isEnded_18 : decode cX7_isEnded 18 = .ok (.iconst 0, 1) := by decide +kernel
theorem dX7_isEnded_19 : decode cX7_isEnded 19 = .ok (.ireturn, 1) := by decide +kernel
theorem dX7_askSource_0 : decode cX7_askSource 0 = .ok (.aload_n 0, 1) := by decide +kernel
theorem dX7_askSource_1 : decode cX7_askSource 1 = .ok (.iconst (-1), 1) := by decide +kernel
theorem dX7_askSource_2 : decode cX7_askSource 2 = .ok (.putfield 152, 3) := by decide +kernel
theorem dX7_askSource_5 : decode cX7_askSource 5 = .ok (.aload_n 0, 1) := by decide +kernel
theorem dX7_askSource_6 : decode cX7_askSource 6 = .ok (.getfield 20, 3) := by decide +kernel
theorem dX7_askSource_9 : decode cX7_askSource 9 = .ok (.iload_n 1, 1) := by decide +kernel
theorem dX7_askSource_10 : decode cX7_askSource 10 = .ok (.iaload, 1) := by decide +kernel
theorem dX7_askSource_11 : decode cX7_askSource 11 = .ok (.ifCond .ne 67, 3) := by decide +kernel
theorem dX7_askSource_14 : decode cX7_askSource 14 = .ok (.aload_n 0, 1) := by decide +kernel
theorem dX7_askSource_15 : decode cX7_askSource 15 = .ok (.getfield 29, 3) := by decide +kernel
theorem dX7_askSource_18 : decode cX7_askSource 18 = .ok (.iload_n 1, 1) := by decide +kernel
theorem dX7_askSource_19 : decode cX7_askSource 19 = .ok (.iaload, 1) := by decide +kernel
theorem dX7_askSource_20 : decode cX7_askSource 20 = .ok (.ifCond .lt 18, 3) := by decide +kernel
theorem dX7_askSource_23 : decode cX7_askSource 23 = .ok (.aload_n 0, 1) := by decide +kernel
theorem dX7_askSource_24 : decode cX7_askSource 24 = .ok (.getfield 69, 3) := by decide +kernel
theorem dX7_askSource_27 : decode cX7_askSource 27 = .ok (.iconst 0, 1) := by decide +kernel
theorem dX7_askSource_28 : decode cX7_askSource 28 = .ok (.iaload, 1) := by decide +kernel
theorem dX7_askSource_29 : decode cX7_askSource 29 = .ok (.aload_n 0, 1) := by decide +kernel
theorem dX7_askSource_30 : decode cX7_askSource 30 = .ok (.getfield 29, 3) := by decide +kernel
theorem dX7_askSource_33 : decode cX7_askSource 33 = .ok (.iload_n 1, 1) := by decide +kernel
theorem dX7_askSource_34 : decode cX7_askSource 34 = .ok (.iaload, 1) := by decide +kernel
theorem dX7_askSource_35 : decode cX7_askSource 35 = .ok (.if_icmp .ge 42, 3) := by decide +kernel
theorem dX7_askSource_38 : decode cX7_askSource 38 = .ok (.aload_n 0, 1) := by decide +kernel
theorem dX7_askSource_39 : decode cX7_askSource 39 = .ok (.aload_n 0, 1) := by decide +kernel
theorem dX7_askSource_40 : decode cX7_askSource 40 = .ok (.aload_n 0, 1) := by decide +kernel
theorem dX7_askSource_41 : decode cX7_askSource 41 = .ok (.getfield 23, 3) := by decide +kernel
theorem dX7_askSource_44 : decode cX7_askSource 44 = .ok (.iload_n 1, 1) := by decide +kernel
theorem dX7_askSource_45 : decode cX7_askSource 45 = .ok (.laload, 1) := by decide +kernel
theorem dX7_askSource_46 : decode cX7_askSource 46 = .ok (.aload_n 0, 1) := by decide +kernel
theorem dX7_askSource_47 : decode cX7_askSource 47 = .ok (.getfield 69, 3) := by decide +kernel
theorem dX7_askSource_50 : decode cX7_askSource 50 = .ok (.iconst 0, 1) := by decide +kernel
theorem dX7_askSource_51 : decode cX7_askSource 51 = .ok (.iaload, 1) := by decide +kernel
theorem dX7_askSource_52 : decode cX7_askSource 52 = .ok (.i2l, 1) := by decide +kernel
theorem dX7_askSource_53 : decode cX7_askSource 53 = .ok (.aload_n 0, 1) := by decide +kernel
theorem dX7_askSource_54 : decode cX7_askSource 54 = .ok (.getfield 26, 3) := by decide +kernel
theorem dX7_askSource_57 : decode cX7_askSource 57 = .ok (.iload_n 1, 1) := by decide +kernel
theorem dX7_askSource_58 : decode cX7_askSource 58 = .ok (.laload, 1) := by decide +kernel
theorem dX7_askSource_59 : decode cX7_askSource 59 = .ok (.lmul, 1) := by decide +kernel
theorem dX7_askSource_60 : decode cX7_askSource 60 = .ok (.ladd, 1) := by decide +kernel
theorem dX7_askSource_61 : decode cX7_askSource 61 = .ok (.invokevirtual 155, 3) := by decide +kernel
theorem dX7_askSource_64 : decode cX7_askSource 64 = .ok (.putfield 152, 3) := by decide +kernel
theorem dX7_askSource_67 : decode cX7_askSource 67 = .ok (.aload_n 0, 1) := by decide +kernel
theorem dX7_askSource_68 : decode cX7_askSource 68 = .ok (.getfield 69, 3) := by decide +kernel
theorem dX7_askSource_71 : decode cX7_askSource 71 = .ok (.iconst 0, 1) := by decide +kernel
theorem dX7_askSource_72 : decode cX7_askSource 72 = .ok (.dup2, 1) := by decide +kernel
theorem dX7_askSource_73 : decode cX7_askSource 73 = .ok (.iaload, 1) := by decide +kernel
theorem dX7_askSource_74 : decode cX7_askSource 74 = .ok (.iconst 1, 1) := by decide +kernel
theorem dX7_askSource_75 : decode cX7_askSource 75 = .ok (.iadd, 1) := by decide +kernel
theorem dX7_askSource_76 : decode cX7_askSource 76 = .ok (.iastore, 1) := by decide +kernel
theorem dX7_askSource_77 : decode cX7_askSource 77 = .ok (.return_, 1) := by decide +kernel
theorem dX7_askSource_78 : decode cX7_askSource 78 = .ok (.aload_n 0, 1) := by decide +kernel
theorem dX7_askSource_79 : decode cX7_askSource 79 = .ok (.getfield 29, 3) := by decide +kernel
theorem dX7_askSource_82 : decode cX7_askSource 82 = .ok (.iload_n 1, 1) := by decide +kernel
theorem dX7_askSource_83 : decode cX7_askSource 83 = .ok (.iaload, 1) := by decide +kernel
theorem dX7_askSource_84 : decode cX7_askSource 84 = .ok (.istore_n 2, 1) := by decide +kernel
theorem dX7_askSource_85 : decode cX7_askSource 85 = .ok (.aload_n 0, 1) := by decide +kernel
theorem dX7_askSource_86 : decode cX7_askSource 86 = .ok (.getfield 7, 3) := by decide +kernel
theorem dX7_askSource_89 : decode cX7_askSource 89 = .ok (.iload_n 2, 1) := by decide +kernel
theorem dX7_askSource_90 : decode cX7_askSource 90 = .ok (.iaload, 1) := by decide +kernel
theorem dX7_askSource_91 : decode cX7_askSource 91 = .ok (.ifCond .ne 9, 3) := by decide +kernel
theorem dX7_askSource_94 : decode cX7_askSource 94 = .ok (.aload_n 0, 1) := by decide +kernel
theorem dX7_askSource_95 : decode cX7_askSource 95 = .ok (.iconst 1, 1) := by decide +kernel
theorem dX7_askSource_96 : decode cX7_askSource 96 = .ok (.putfield 149, 3) := by decide +kernel
theorem dX7_askSource_99 : decode cX7_askSource 99 = .ok (.return_, 1) := by decide +kernel
theorem dX7_askSource_100 : decode cX7_askSource 100 = .ok (.aload_n 0, 1) := by decide +kernel
theorem dX7_askSource_101 : decode cX7_askSource 101 = .ok (.getfield 69, 3) := by decide +kernel
theorem dX7_askSource_104 : decode cX7_askSource 104 = .ok (.iconst 0, 1) := by decide +kernel
theorem dX7_askSource_105 : decode cX7_askSource 105 = .ok (.iaload, 1) := by decide +kernel
theorem dX7_askSource_106 : decode cX7_askSource 106 = .ok (.aload_n 0, 1) := by decide +kernel
theorem dX7_askSource_107 : decode cX7_askSource 107 = .ok (.getfield 13, 3) := by decide +kernel
theorem dX7_askSource_110 : decode cX7_askSource 110 = .ok (.iload_n 2, 1) := by decide +kernel
theorem dX7_askSource_111 : decode cX7_askSource 111 = .ok (.iaload, 1) := by decide +kernel
theorem dX7_askSource_112 : decode cX7_askSource 112 = .ok (.if_icmp .ge 37, 3) := by decide +kernel
theorem dX7_askSource_115 : decode cX7_askSource 115 = .ok (.aload_n 0, 1) := by decide +kernel
theorem dX7_askSource_116 : decode cX7_askSource 116 = .ok (.aload_n 0, 1) := by decide +kernel
theorem dX7_askSource_117 : decode cX7_askSource 117 = .ok (.aload_n 0, 1) := by decide +kernel
theorem dX7_askSource_118 : decode cX7_askSource 118 = .ok (.getfield 16, 3) := by decide +kernel
theorem dX7_askSource_121 : decode cX7_askSource 121 = .ok (.bipush 16, 2) := by decide +kernel
theorem dX7_askSource_123 : decode cX7_askSource 123 = .ok (.iload_n 2, 1) := by decide +kernel
theorem dX7_askSource_124 : decode cX7_askSource 124 = .ok (.imul, 1) := by decide +kernel
theorem dX7_askSource_125 : decode cX7_askSource 125 = .ok (.aload_n 0, 1) := by decide +kernel
theorem dX7_askSource_126 : decode cX7_askSource 126 = .ok (.getfield 69, 3) := by decide +kernel
theorem dX7_askSource_129 : decode cX7_askSource 129 = .ok (.iconst 0, 1) := by decide +kernel
theorem dX7_askSource_130 : decode cX7_askSource 130 = .ok (.iaload, 1) := by decide +kernel
theorem dX7_askSource_131 : decode cX7_askSource 131 = .ok (.iadd, 1) := by decide +kernel
theorem dX7_askSource_132 : decode cX7_askSource 132 = .ok (.laload, 1) := by decide +kernel
theorem dX7_askSource_133 : decode cX7_askSource 133 = .ok (.invokevirtual 155, 3) := by decide +kernel
theorem dX7_askSource_136 : decode cX7_askSource 136 = .ok (.putfield 152, 3) := by decide +kernel
theorem dX7_askSource_139 : decode cX7_askSource 139 = .ok (.aload_n 0, 1) := by decide +kernel
theorem dX7_askSource_140 : decode cX7_askSource 140 = .ok (.getfield 69, 3) := by decide +kernel
theorem dX7_askSource_143 : decode cX7_askSource 143 = .ok (.iconst 0, 1) := by decide +kernel
theorem dX7_askSource_144 : decode cX7_askSource 144 = .ok (.dup2, 1) := by decide +kernel
theorem dX7_askSource_145 : decode cX7_askSource 145 = .ok (.iaload, 1) := by decide +kernel
theorem dX7_askSource_146 : decode cX7_askSource 146 = .ok (.iconst 1, 1) := by decide +kernel
theorem dX7_askSource_147 : decode cX7_askSource 147 = .ok (.iadd, 1) := by decide +kernel
theorem dX7_askSource_148 : decode cX7_askSource 148 = .ok (.iastore, 1) := by decide +kernel
theorem dX7_askSource_149 : decode cX7_askSource 149 = .ok (.return_, 1) := by decide +kernel
theorem dX7_isValue_0 : decode cX7_isValue 0 = .ok (.aload_n 0, 1) := by decide +kernel
theorem dX7_isValue_1 : decode cX7_isValue 1 = .ok (.iload_n 1, 1) := by decide +kernel
theorem dX7_isValue_2 : decode cX7_isValue 2 = .ok (.invokevirtual 159, 3) := by decide +kernel
theorem dX7_isValue_5 : decode cX7_isValue 5 = .ok (.aload_n 0, 1) := by decide +kernel
theorem dX7_isValue_6 : decode cX7_isValue 6 = .ok (.getfield 44, 3) := by decide +kernel
theorem dX7_isValue_9 : decode cX7_isValue 9 = .ok (.iload_n 1, 1) := by decide +kernel
theorem dX7_isValue_10 : decode cX7_isValue 10 = .ok (.iaload, 1) := by decide +kernel
theorem dX7_isValue_11 : decode cX7_isValue 11 = .ok (.iconst 2, 1) := by decide +kernel
theorem dX7_isValue_12 : decode cX7_isValue 12 = .ok (.if_icmp .ne 14, 3) := by decide +kernel
theorem dX7_isValue_15 : decode cX7_isValue 15 = .ok (.aload_n 0, 1) := by decide +kernel
theorem dX7_isValue_16 : decode cX7_isValue 16 = .ok (.aload_n 0, 1) := by decide +kernel
theorem dX7_isValue_17 : decode cX7_isValue 17 = .ok (.getfield 47, 3) := by decide +kernel
theorem dX7_isValue_20 : decode cX7_isValue 20 = .ok (.iload_n 1, 1) := by decide +kernel
theorem dX7_isValue_21 : decode cX7_isValue 21 = .ok (.laload, 1) := by decide +kernel
theorem dX7_isValue_22 : decode cX7_isValue 22 = .ok (.l2i, 1) := by decide +kernel
theorem dX7_isValue_23 : decode cX7_isValue 23 = .ok (.putfield 149, 3) := by decide +kernel
theorem dX7_isValue_26 : decode cX7_isValue 26 = .ok (.aload_n 0, 1) := by decide +kernel
theorem dX7_isValue_27 : decode cX7_isValue 27 = .ok (.getfield 44, 3) := by decide +kernel
theorem dX7_isValue_30 : decode cX7_isValue 30 = .ok (.iload_n 1, 1) := by decide +kernel
theorem dX7_isValue_31 : decode cX7_isValue 31 = .ok (.iaload, 1) := by decide +kernel
theorem dX7_isValue_32 : decode cX7_isValue 32 = .ok (.iconst 1, 1) := by decide +kernel
theorem dX7_isValue_33 : decode cX7_isValue 33 = .ok (.if_icmp .ne 7, 3) := by decide +kernel
theorem dX7_isValue_36 : decode cX7_isValue 36 = .ok (.iconst 1, 1) := by decide +kernel
theorem dX7_isValue_37 : decode cX7_isValue 37 = .ok (.goto 4, 3) := by decide +kernel
theorem dX7_isValue_40 : decode cX7_isValue 40 = .ok (.iconst 0, 1) := by decide +kernel
theorem dX7_isValue_41 : decode cX7_isValue 41 = .ok (.ireturn, 1) := by decide +kernel
theorem dX7_answersAtOnce_0 : decode cX7_answersAtOnce 0 = .ok (.aload_n 0, 1) := by decide +kernel
theorem dX7_answersAtOnce_1 : decode cX7_answersAtOnce 1 = .ok (.iconst (-1), 1) := by decide +kernel
theorem dX7_answersAtOnce_2 : decode cX7_answersAtOnce 2 = .ok (.putfield 152, 3) := by decide +kernel
theorem dX7_answersAtOnce_5 : decode cX7_answersAtOnce 5 = .ok (.aload_n 0, 1) := by decide +kernel
theorem dX7_answersAtOnce_6 : decode cX7_answersAtOnce 6 = .ok (.getfield 38, 3) := by decide +kernel
theorem dX7_answersAtOnce_9 : decode cX7_answersAtOnce 9 = .ok (.iconst 4, 1) := by decide +kernel
theorem dX7_answersAtOnce_10 : decode cX7_answersAtOnce 10 = .ok (.iload_n 2, 1) := by decide +kernel
theorem dX7_answersAtOnce_11 : decode cX7_answersAtOnce 11 = .ok (.imul, 1) := by decide +kernel
theorem dX7_answersAtOnce_12 : decode cX7_answersAtOnce 12 = .ok (.iaload, 1) := by decide +kernel
theorem dX7_answersAtOnce_13 : decode cX7_answersAtOnce 13 = .ok (.istore_n 3, 1) := by decide +kernel
theorem dX7_answersAtOnce_14 : decode cX7_answersAtOnce 14 = .ok (.iload_n 3, 1) := by decide +kernel
theorem dX7_answersAtOnce_15 : decode cX7_answersAtOnce 15 = .ok (.bipush 11, 2) := by decide +kernel
theorem dX7_answersAtOnce_17 : decode cX7_answersAtOnce 17 = .ok (.if_icmp .ne 19, 3) := by decide +kernel
theorem dX7_answersAtOnce_20 : decode cX7_answersAtOnce 20 = .ok (.aload_n 0, 1) := by decide +kernel
theorem dX7_answersAtOnce_21 : decode cX7_answersAtOnce 21 = .ok (.getfield 75, 3) := by decide +kernel
theorem dX7_answersAtOnce_24 : decode cX7_answersAtOnce 24 = .ok (.iload_n 1, 1) := by decide +kernel
theorem dX7_answersAtOnce_25 : decode cX7_answersAtOnce 25 = .ok (.baload, 1) := by decide +kernel
theorem dX7_answersAtOnce_26 : decode cX7_answersAtOnce 26 = .ok (.ifCond .eq 10, 3) := by decide +kernel
theorem dX7_answersAtOnce_29 : decode cX7_answersAtOnce 29 = .ok (.aload_n 0, 1) := by decide +kernel
theorem dX7_answersAtOnce_30 : decode cX7_answersAtOnce 30 = .ok (.iload_n 1, 1) := by decide +kernel
theorem dX7_answersAtOnce_31 : decode cX7_answersAtOnce 31 = .ok (.invokevirtual 163, 3) := by decide +kernel
theorem dX7_answersAtOnce_34 : decode cX7_answersAtOnce 34 = .ok (.iconst 1, 1) := by decide +kernel
theorem dX7_answersAtOnce_35 : decode cX7_answersAtOnce 35 = .ok (.ireturn, 1) := by decide +kernel
theorem dX7_answersAtOnce_36 : decode cX7_answersAtOnce 36 = .ok (.aload_n 0, 1) := by decide +kernel
theorem dX7_answersAtOnce_37 : decode cX7_answersAtOnce 37 = .ok (.getfield 66, 3) := by decide +kernel
theorem dX7_answersAtOnce_40 : decode cX7_answersAtOnce 40 = .ok (.iload_n 1, 1) := by decide +kernel
theorem dX7_answersAtOnce_41 : decode cX7_answersAtOnce 41 = .ok (.baload, 1) := by decide +kernel
theorem dX7_answersAtOnce_42 : decode cX7_answersAtOnce 42 = .ok (.ifCond .ne 28, 3) := by decide +kernel
theorem dX7_answersAtOnce_45 : decode cX7_answersAtOnce 45 = .ok (.iload_n 3, 1) := by decide +kernel
theorem dX7_answersAtOnce_46 : decode cX7_answersAtOnce 46 = .ok (.bipush 7, 2) := by decide +kernel
theorem dX7_answersAtOnce_48 : decode cX7_answersAtOnce 48 = .ok (.if_icmp .ne 26, 3) := by decide +kernel
theorem dX7_answersAtOnce_51 : decode cX7_answersAtOnce 51 = .ok (.aload_n 0, 1) := by decide +kernel
theorem dX7_answersAtOnce_52 : decode cX7_answersAtOnce 52 = .ok (.getfield 69, 3) := by decide +kernel
theorem dX7_answersAtOnce_55 : decode cX7_answersAtOnce 55 = .ok (.iload_n 1, 1) := by decide +kernel
theorem dX7_answersAtOnce_56 : decode cX7_answersAtOnce 56 = .ok (.iaload, 1) := by decide +kernel
theorem dX7_answersAtOnce_57 : decode cX7_answersAtOnce 57 = .ok (.i2l, 1) := by decide +kernel
theorem dX7_answersAtOnce_58 : decode cX7_answersAtOnce 58 = .ok (.aload_n 0, 1) := by decide +kernel
theorem dX7_answersAtOnce_59 : decode cX7_answersAtOnce 59 = .ok (.getfield 41, 3) := by decide +kernel
theorem dX7_answersAtOnce_62 : decode cX7_answersAtOnce 62 = .ok (.iconst 4, 1) := by decide +kernel
theorem dX7_answersAtOnce_63 : decode cX7_answersAtOnce 63 = .ok (.iload_n 2, 1) := by decide +kernel
theorem dX7_answersAtOnce_64 : decode cX7_answersAtOnce 64 = .ok (.imul, 1) := by decide +kernel
theorem dX7_answersAtOnce_65 : decode cX7_answersAtOnce 65 = .ok (.laload, 1) := by decide +kernel
theorem dX7_answersAtOnce_66 : decode cX7_answersAtOnce 66 = .ok (.lcmp, 1) := by decide +kernel
theorem dX7_answersAtOnce_67 : decode cX7_answersAtOnce 67 = .ok (.ifCond .ne 7, 3) := by decide +kernel
theorem dX7_answersAtOnce_70 : decode cX7_answersAtOnce 70 = .ok (.iconst 1, 1) := by decide +kernel
theorem dX7_answersAtOnce_71 : decode cX7_answersAtOnce 71 = .ok (.goto 4, 3) := by decide +kernel
theorem dX7_answersAtOnce_74 : decode cX7_answersAtOnce 74 = .ok (.iconst 0, 1) := by decide +kernel
theorem dX7_answersAtOnce_75 : decode cX7_answersAtOnce 75 = .ok (.ireturn, 1) := by decide +kernel
theorem dX7_giveGathered_0 : decode cX7_giveGathered 0 = .ok (.aload_n 0, 1) := by decide +kernel
theorem dX7_giveGathered_1 : decode cX7_giveGathered 1 = .ok (.iconst (-1), 1) := by decide +kernel
theorem dX7_giveGathered_2 : decode cX7_giveGathered 2 = .ok (.putfield 152, 3) := by decide +kernel
theorem dX7_giveGathered_5 : decode cX7_giveGathered 5 = .ok (.aload_n 0, 1) := by decide +kernel
theorem dX7_giveGathered_6 : decode cX7_giveGathered 6 = .ok (.getfield 78, 3) := by decide +kernel
theorem dX7_giveGathered_9 : decode cX7_giveGathered 9 = .ok (.iload_n 1, 1) := by decide +kernel
theorem dX7_giveGathered_10 : decode cX7_giveGathered 10 = .ok (.iaload, 1) := by decide +kernel
theorem dX7_giveGathered_11 : decode cX7_giveGathered 11 = .ok (.ifCond .le 44, 3) := by decide +kernel
theorem dX7_giveGathered_14 : decode cX7_giveGathered 14 = .ok (.aload_n 0, 1) := by decide +kernel
theorem dX7_giveGathered_15 : decode cX7_giveGathered 15 = .ok (.getfield 78, 3) := by decide +kernel
theorem dX7_giveGathered_18 : decode cX7_giveGathered 18 = .ok (.iload_n 1, 1) := by decide +kernel
theorem dX7_giveGathered_19 : decode cX7_giveGathered 19 = .ok (.dup2, 1) := by decide +kernel
theorem dX7_giveGathered_20 : decode cX7_giveGathered 20 = .ok (.iaload, 1) := by decide +kernel
theorem dX7_giveGathered_21 : decode cX7_giveGathered 21 = .ok (.iconst 1, 1) := by decide +kernel
theorem dX7_giveGathered_22 : decode cX7_giveGathered 22 = .ok (.isub, 1) := by decide +kernel
theorem dX7_giveGathered_23 : decode cX7_giveGathered 23 = .ok (.iastore, 1) := by decide +kernel
theorem dX7_giveGathered_24 : decode cX7_giveGathered 24 = .ok (.aload_n 0, 1) := by decide +kernel
theorem dX7_giveGathered_25 : decode cX7_giveGathered 25 = .ok (.aload_n 0, 1) := by decide +kernel
theorem dX7_giveGathered_26 : decode cX7_giveGathered 26 = .ok (.getfield 81, 3) := by decide +kernel
theorem dX7_giveGathered_29 : decode cX7_giveGathered 29 = .ok (.sipush 500, 3) := by decide +kernel
theorem dX7_giveGathered_32 : decode cX7_giveGathered 32 = .ok (.iload_n 1, 1) := by decide +kernel
theorem dX7_giveGathered_33 : decode cX7_giveGathered 33 = .ok (.imul, 1) := by decide +kernel
theorem dX7_giveGathered_34 : decode cX7_giveGathered 34 = .ok (.aload_n 0, 1) := by decide +kernel
theorem dX7_giveGathered_35 : decode cX7_giveGathered 35 = .ok (.getfield 78, 3) := by decide +kernel
theorem dX7_giveGathered_38 : decode cX7_giveGathered 38 = .ok (.iload_n 1, 1) := by decide +kernel
theorem dX7_giveGathered_39 : decode cX7_giveGathered 39 = .ok (.iaload, 1) := by decide +kernel
theorem dX7_giveGathered_40 : decode cX7_giveGathered 40 = .ok (.iadd, 1) := by decide +kernel
theorem dX7_giveGathered_41 : decode cX7_giveGathered 41 = .ok (.iaload, 1) := by decide +kernel
theorem dX7_giveGathered_42 : decode cX7_giveGathered 42 = .ok (.putfield 152, 3) := by decide +kernel
theorem dX7_giveGathered_45 : decode cX7_giveGathered 45 = .ok (.aload_n 0, 1) := by decide +kernel
theorem dX7_giveGathered_46 : decode cX7_giveGathered 46 = .ok (.dup, 1) := by decide +kernel
theorem dX7_giveGathered_47 : decode cX7_giveGathered 47 = .ok (.getfield 166, 3) := by decide +kernel
theorem dX7_giveGathered_50 : decode cX7_giveGathered 50 = .ok (.iconst 1, 1) := by decide +kernel
theorem dX7_giveGathered_51 : decode cX7_giveGathered 51 = .ok (.iadd, 1) := by decide +kernel
theorem dX7_giveGathered_52 : decode cX7_giveGathered 52 = .ok (.putfield 166, 3) := by decide +kernel
theorem dX7_giveGathered_55 : decode cX7_giveGathered 55 = .ok (.return_, 1) := by decide +kernel
theorem dX7_passes_0 : decode cX7_passes 0 = .ok (.iconst 0, 1) := by decide +kernel
theorem dX7_passes_1 : decode cX7_passes 1 = .ok (.istore 4, 2) := by decide +kernel
theorem dX7_passes_3 : decode cX7_passes 3 = .ok (.iload 4, 2) := by decide +kernel
theorem dX7_passes_5 : decode cX7_passes 5 = .ok (.aload_n 0, 1) := by decide +kernel
theorem dX7_passes_6 : decode cX7_passes 6 = .ok (.getfield 35, 3) := by decide +kernel
theorem dX7_passes_9 : decode cX7_passes 9 = .ok (.iload_n 1, 1) := by decide +kernel
theorem dX7_passes_10 : decode cX7_passes 10 = .ok (.iaload, 1) := by decide +kernel
theorem dX7_passes_11 : decode cX7_passes 11 = .ok (.if_icmp .ge 77, 3) := by decide +kernel
theorem dX7_passes_14 : decode cX7_passes 14 = .ok (.aload_n 0, 1) := by decide +kernel
theorem dX7_passes_15 : decode cX7_passes 15 = .ok (.getfield 41, 3) := by decide +kernel
theorem dX7_passes_18 : decode cX7_passes 18 = .ok (.iconst 4, 1) := by decide +kernel
theorem dX7_passes_19 : decode cX7_passes 19 = .ok (.iload_n 1, 1) := by decide +kernel
theorem dX7_passes_20 : decode cX7_passes 20 = .ok (.imul, 1) := by decide +kernel
theorem dX7_passes_21 : decode cX7_passes 21 = .ok (.iload 4, 2) := by decide +kernel
theorem dX7_passes_23 : decode cX7_passes 23 = .ok (.iadd, 1) := by decide +kernel
theorem dX7_passes_24 : decode cX7_passes 24 = .ok (.laload, 1) := by decide +kernel
theorem dX7_passes_25 : decode cX7_passes 25 = .ok (.lstore 5, 2) := by decide +kernel
theorem dX7_passes_27 : decode cX7_passes 27 = .ok (.aload_n 0, 1) := by decide +kernel
theorem dX7_passes_28 : decode cX7_passes 28 = .ok (.getfield 38, 3) := by decide +kernel
theorem dX7_passes_31 : decode cX7_passes 31 = .ok (.iconst 4, 1) := by decide +kernel
theorem dX7_passes_32 : decode cX7_passes 32 = .ok (.iload_n 1, 1) := by decide +kernel
theorem dX7_passes_33 : decode cX7_passes 33 = .ok (.imul, 1) := by decide +kernel
theorem dX7_passes_34 : decode cX7_passes 34 = .ok (.iload 4, 2) := by decide +kernel
theorem dX7_passes_36 : decode cX7_passes 36 = .ok (.iadd, 1) := by decide +kernel
theorem dX7_passes_37 : decode cX7_passes 37 = .ok (.iaload, 1) := by decide +kernel
theorem dX7_passes_38 : decode cX7_passes 38 = .ok (.istore 7, 2) := by decide +kernel
theorem dX7_passes_40 : decode cX7_passes 40 = .ok (.iload 7, 2) := by decide +kernel
theorem dX7_passes_42 : decode cX7_passes 42 = .ok (.iconst 4, 1) := by decide +kernel
theorem dX7_passes_43 : decode cX7_passes 43 = .ok (.if_icmp .ne 13, 3) := by decide +kernel
theorem dX7_passes_46 : decode cX7_passes 46 = .ok (.lload_n 2, 1) := by decide +kernel
theorem dX7_passes_47 : decode cX7_passes 47 = .ok (.lload 5, 2) := by decide +kernel
theorem dX7_passes_49 : decode cX7_passes 49 = .ok (.lcmp, 1) := by decide +kernel
theorem dX7_passes_50 : decode cX7_passes 50 = .ok (.ifCond .le 30, 3) := by decide +kernel
theorem dX7_passes_53 : decode cX7_passes 53 = .ok (.goto 29, 3) := by decide +kernel
theorem dX7_passes_56 : decode cX7_passes 56 = .ok (.iload 7, 2) := by decide +kernel
theorem dX7_passes_58 : decode cX7_passes 58 = .ok (.iconst 5, 1) := by decide +kernel
theorem dX7_passes_59 : decode cX7_passes 59 = .ok (.if_icmp .ne 14, 3) := by decide +kernel
theorem dX7_passes_62 : decode cX7_passes 62 = .ok (.lload_n 2, 1) := by decide +kernel
theorem dX7_passes_63 : decode cX7_passes 63 = .ok (.lconst 1, 1) := by decide +kernel
theorem dX7_passes_64 : decode cX7_passes 64 = .ok (.land, 1) := by decide +kernel
theorem dX7_passes_65 : decode cX7_passes 65 = .ok (.lconst 0, 1) := by decide +kernel
theorem dX7_passes_66 : decode cX7_passes 66 = .ok (.lcmp, 1) := by decide +kernel
theorem dX7_passes_67 : decode cX7_passes 67 = .ok (.ifCond .ne 13, 3) := by decide +kernel
theorem dX7_passes_70 : decode cX7_passes 70 = .ok (.goto 12, 3) := by decide +kernel
theorem dX7_passes_73 : decode cX7_passes 73 = .ok (.lload_n 2, 1) := by decide +kernel
theorem dX7_passes_74 : decode cX7_passes 74 = .ok (.lload 5, 2) := by decide +kernel
theorem dX7_passes_76 : decode cX7_passes 76 = .ok (.lcmp, 1) := by decide +kernel
theorem dX7_passes_77 : decode cX7_passes 77 = .ok (.ifCond .ne 5, 3) := by decide +kernel
theorem dX7_passes_80 : decode cX7_passes 80 = .ok (.iconst 0, 1) := by decide +kernel
theorem dX7_passes_81 : decode cX7_passes 81 = .ok (.ireturn, 1) := by decide +kernel
theorem dX7_passes_82 : decode cX7_passes 82 = .ok (.iinc 4 1, 3) := by decide +kernel
theorem dX7_passes_85 : decode cX7_passes 85 = .ok (.goto (-82), 3) := by decide +kernel
theorem dX7_passes_88 : decode cX7_passes 88 = .ok (.iconst 1, 1) := by decide +kernel
theorem dX7_passes_89 : decode cX7_passes 89 = .ok (.ireturn, 1) := by decide +kernel
theorem dX7_hears_0 : decode cX7_hears 0 = .ok (.aload_n 0, 1) := by decide +kernel
theorem dX7_hears_1 : decode cX7_hears 1 = .ok (.getfield 38, 3) := by decide +kernel
theorem dX7_hears_4 : decode cX7_hears 4 = .ok (.iconst 4, 1) := by decide +kernel
theorem dX7_hears_5 : decode cX7_hears 5 = .ok (.iload_n 2, 1) := by decide +kernel
theorem dX7_hears_6 : decode cX7_hears 6 = .ok (.imul, 1) := by decide +kernel
theorem dX7_hears_7 : decode cX7_hears 7 = .ok (.iaload, 1) := by decide +kernel
theorem dX7_hears_8 : decode cX7_hears 8 = .ok (.istore_n 3, 1) := by decide +kernel
theorem dX7_hears_9 : decode cX7_hears 9 = .ok (.aload_n 0, 1) := by decide +kernel
theorem dX7_hears_10 : decode cX7_hears 10 = .ok (.getfield 152, 3) := by decide +kernel
theorem dX7_hears_13 : decode cX7_hears 13 = .ok (.istore 4, 2) := by decide +kernel
theorem dX7_hears_15 : decode cX7_hears 15 = .ok (.iload 4, 2) := by decide +kernel
theorem dX7_hears_17 : decode cX7_hears 17 = .ok (.ifCond .ge 30, 3) := by decide +kernel
theorem dX7_hears_20 : decode cX7_hears 20 = .ok (.aload_n 0, 1) := by decide +kernel
theorem dX7_hears_21 : decode cX7_hears 21 = .ok (.getfield 66, 3) := by decide +kernel
theorem dX7_hears_24 : decode cX7_hears 24 = .ok (.iload_n 1, 1) := by decide +kernel
theorem dX7_hears_25 : decode cX7_hears 25 = .ok (.iconst 1, 1) := by decide +kernel
theorem dX7_hears_26 : decode cX7_hears 26 = .ok (.bastore, 1) := by decide +kernel
theorem dX7_hears_27 : decode cX7_hears 27 = .ok (.iload_n 3, 1) := by decide +kernel
theorem dX7_hears_28 : decode cX7_hears 28 = .ok (.bipush 11, 2) := by decide +kernel
theorem dX7_hears_30 : decode cX7_hears 30 = .ok (.if_icmp .ne 15, 3) := by decide +kernel
theorem dX7_hears_33 : decode cX7_hears 33 = .ok (.aload_n 0, 1) := by decide +kernel
theorem dX7_hears_34 : decode cX7_hears 34 = .ok (.getfield 75, 3) := by decide +kernel
theorem dX7_hears_37 : decode cX7_hears 37 = .ok (.iload_n 1, 1) := by decide +kernel
theorem dX7_hears_38 : decode cX7_hears 38 = .ok (.iconst 1, 1) := by decide +kernel
theorem dX7_hears_39 : decode cX7_hears 39 = .ok (.bastore, 1) := by decide +kernel
theorem dX7_hears_40 : decode cX7_hears 40 = .ok (.aload_n 0, 1) := by decide +kernel
theorem dX7_hears_41 : decode cX7_hears 41 = .ok (.iload_n 1, 1) := by decide +kernel
theorem dX7_hears_42 : decode cX7_hears 42 = .ok (.invokevirtual 163, 3) := by decide +kernel
theorem dX7_hears_45 : decode cX7_hears 45 = .ok (.iconst 1, 1) := by decide +kernel
theorem dX7_hears_46 : decode cX7_hears 46 = .ok (.ireturn, 1) := by decide +kernel
theorem dX7_hears_47 : decode cX7_hears 47 = .ok (.iload_n 3, 1) := by decide +kernel
theorem dX7_hears_48 : decode cX7_hears 48 = .ok (.iconst 4, 1) := by decide +kernel
theorem dX7_hears_49 : decode cX7_hears 49 = .ok (.if_icmp .ge 27, 3) := by decide +kernel
theorem dX7_hears_52 : decode cX7_hears 52 = .ok (.aload_n 0, 1) := by decide +kernel
theorem dX7_hears_53 : decode cX7_hears 53 = .ok (.aload_n 0, 1) := by decide +kernel
theorem dX7_hears_54 : decode cX7_hears 54 = .ok (.iload 4, 2) := by decide +kernel
theorem dX7_hears_56 : decode cX7_hears 56 = .ok (.iconst (-1), 1) := by decide +kernel
theorem dX7_hears_57 : decode cX7_hears 57 = .ok (.iload_n 2, 1) := by decide +kernel
theorem dX7_hears_58 : decode cX7_hears 58 = .ok (.invokevirtual 127, 3) := by decide +kernel
theorem dX7_hears_61 : decode cX7_hears 61 = .ok (.putfield 152, 3) := by decide +kernel
theorem dX7_hears_64 : decode cX7_hears 64 = .ok (.aload_n 0, 1) := by decide +kernel
theorem dX7_hears_65 : decode cX7_hears 65 = .ok (.dup, 1) := by decide +kernel
theorem dX7_hears_66 : decode cX7_hears 66 = .ok (.getfield 166, 3) := by decide +kernel
theorem dX7_hears_69 : decode cX7_hears 69 = .ok (.iconst 1, 1) := by decide +kernel
theorem dX7_hears_70 : decode cX7_hears 70 = .ok (.iadd, 1) := by decide +kernel
theorem dX7_hears_71 : decode cX7_hears 71 = .ok (.putfield 166, 3) := by decide +kernel
theorem dX7_hears_74 : decode cX7_hears 74 = .ok (.iconst 1, 1) := by decide +kernel
theorem dX7_hears_75 : decode cX7_hears 75 = .ok (.ireturn, 1) := by decide +kernel
theorem dX7_hears_76 : decode cX7_hears 76 = .ok (.iload_n 3, 1) := by decide +kernel
theorem dX7_hears_77 : decode cX7_hears 77 = .ok (.bipush 7, 2) := by decide +kernel
theorem dX7_hears_79 : decode cX7_hears 79 = .ok (.if_icmp .ge 50, 3) := by decide +kernel
theorem dX7_hears_82 : decode cX7_hears 82 = .ok (.aload_n 0, 1) := by decide +kernel
theorem dX7_hears_83 : decode cX7_hears 83 = .ok (.iload 4, 2) := by decide +kernel
theorem dX7_hears_85 : decode cX7_hears 85 = .ok (.invokevirtual 169, 3) := by decide +kernel
theorem dX7_hears_88 : decode cX7_hears 88 = .ok (.ifCond .ne 5, 3) := by decide +kernel
theorem dX7_hears_91 : decode cX7_hears 91 = .ok (.iconst 1, 1) := by decide +kernel
theorem dX7_hears_92 : decode cX7_hears 92 = .ok (.ireturn, 1) := by decide +kernel
theorem dX7_hears_93 : decode cX7_hears 93 = .ok (.aload_n 0, 1) := by decide +kernel
theorem dX7_hears_94 : decode cX7_hears 94 = .ok (.iload_n 2, 1) := by decide +kernel
theorem dX7_hears_95 : decode cX7_hears 95 = .ok (.aload_n 0, 1) := by decide +kernel
theorem dX7_hears_96 : decode cX7_hears 96 = .ok (.getfield 47, 3) := by decide +kernel
theorem dX7_hears_99 : decode cX7_hears 99 = .ok (.iload 4, 2) := by decide +kernel
theorem dX7_hears_101 : decode cX7_hears 101 = .ok (.laload, 1) := by decide +kernel
theorem dX7_hears_102 : decode cX7_hears 102 = .ok (.invokevirtual 172, 3) := by decide +kernel
theorem dX7_hears_105 : decode cX7_hears 105 = .ok (.istore 5, 2) := by decide +kernel
theorem dX7_hears_107 : decode cX7_hears 107 = .ok (.aload_n 0, 1) := by decide +kernel
theorem dX7_hears_108 : decode cX7_hears 108 = .ok (.dup, 1) := by decide +kernel
theorem dX7_hears_109 : decode cX7_hears 109 = .ok (.getfield 166, 3) := by decide +kernel
theorem dX7_hears_112 : decode cX7_hears 112 = .ok (.iload 5, 2) := by decide +kernel
theorem dX7_hears_114 : decode cX7_hears 114 = .ok (.ifCond .eq 7, 3) := by decide +kernel
theorem dX7_hears_117 : decode cX7_hears 117 = .ok (.iconst 1, 1) := by decide +kernel
theorem dX7_hears_118 : decode cX7_hears 118 = .ok (.goto 4, 3) := by decide +kernel
theorem dX7_hears_121 : decode cX7_hears 121 = .ok (.iconst 0, 1) := by decide +kernel
theorem dX7_hears_122 : decode cX7_hears 122 = .ok (.iadd, 1) := by decide +kernel
theorem dX7_hears_123 : decode cX7_hears 123 = .ok (.putfield 166, 3) := by decide +kernel
theorem dX7_hears_126 : decode cX7_hears 126 = .ok (.iload 5, 2) := by decide +kernel
theorem dX7_hears_128 : decode cX7_hears 128 = .ok (.ireturn, 1) := by decide +kernel
theorem dX7_hears_129 : decode cX7_hears 129 = .ok (.iload_n 3, 1) := by decide +kernel
theorem dX7_hears_130 : decode cX7_hears 130 = .ok (.bipush 7, 2) := by decide +kernel
theorem dX7_hears_132 : decode cX7_hears 132 = .ok (.if_icmp .ne 25, 3) := by decide +kernel
theorem dX7_hears_135 : decode cX7_hears 135 = .ok (.aload_n 0, 1) := by decide +kernel
theorem dX7_hears_136 : decode cX7_hears 136 = .ok (.getfield 69, 3) := by decide +kernel
theorem dX7_hears_139 : decode cX7_hears 139 = .ok (.iload_n 1, 1) := by decide +kernel
theorem dX7_hears_140 : decode cX7_hears 140 = .ok (.dup2, 1) := by decide +kernel
theorem dX7_hears_141 : decode cX7_hears 141 = .ok (.iaload, 1) := by decide +kernel
theorem dX7_hears_142 : decode cX7_hears 142 = .ok (.iconst 1, 1) := by decide +kernel
theorem dX7_hears_143 : decode cX7_hears 143 = .ok (.iadd, 1) := by decide +kernel
theorem dX7_hears_144 : decode cX7_hears 144 = .ok (.iastore, 1) := by decide +kernel
theorem dX7_hears_145 : decode cX7_hears 145 = .ok (.aload_n 0, 1) := by decide +kernel
theorem dX7_hears_146 : decode cX7_hears 146 = .ok (.dup, 1) := by decide +kernel
theorem dX7_hears_147 : decode cX7_hears 147 = .ok (.getfield 166, 3) := by decide +kernel
theorem dX7_hears_150 : decode cX7_hears 150 = .ok (.iconst 1, 1) := by decide +kernel
theorem dX7_hears_151 : decode cX7_hears 151 = .ok (.iadd, 1) := by decide +kernel
theorem dX7_hears_152 : decode cX7_hears 152 = .ok (.putfield 166, 3) := by decide +kernel
theorem dX7_hears_155 : decode cX7_hears 155 = .ok (.iconst 1, 1) := by decide +kernel
theorem dX7_hears_156 : decode cX7_hears 156 = .ok (.ireturn, 1) := by decide +kernel
theorem dX7_hears_157 : decode cX7_hears 157 = .ok (.iload_n 3, 1) := by decide +kernel
theorem dX7_hears_158 : decode cX7_hears 158 = .ok (.bipush 8, 2) := by decide +kernel
theorem dX7_hears_160 : decode cX7_hears 160 = .ok (.if_icmp .ne 38, 3) := by decide +kernel
theorem dX7_hears_163 : decode cX7_hears 163 = .ok (.aload_n 0, 1) := by decide +kernel
theorem dX7_hears_164 : decode cX7_hears 164 = .ok (.getfield 69, 3) := by decide +kernel
theorem dX7_hears_167 : decode cX7_hears 167 = .ok (.iload_n 1, 1) := by decide +kernel
theorem dX7_hears_168 : decode cX7_hears 168 = .ok (.dup2, 1) := by decide +kernel
theorem dX7_hears_169 : decode cX7_hears 169 = .ok (.iaload, 1) := by decide +kernel
theorem dX7_hears_170 : decode cX7_hears 170 = .ok (.iconst 1, 1) := by decide +kernel
theorem dX7_hears_171 : decode cX7_hears 171 = .ok (.iadd, 1) := by decide +kernel
theorem dX7_hears_172 : decode cX7_hears 172 = .ok (.iastore, 1) := by decide +kernel
theorem dX7_hears_173 : decode cX7_hears 173 = .ok (.aload_n 0, 1) := by decide +kernel
theorem dX7_hears_174 : decode cX7_hears 174 = .ok (.getfield 69, 3) := by decide +kernel
theorem dX7_hears_177 : decode cX7_hears 177 = .ok (.iload_n 1, 1) := by decide +kernel
theorem dX7_hears_178 : decode cX7_hears 178 = .ok (.iaload, 1) := by decide +kernel
theorem dX7_hears_179 : decode cX7_hears 179 = .ok (.i2l, 1) := by decide +kernel
theorem dX7_hears_180 : decode cX7_hears 180 = .ok (.aload_n 0, 1) := by decide +kernel
theorem dX7_hears_181 : decode cX7_hears 181 = .ok (.getfield 41, 3) := by decide +kernel
theorem dX7_hears_184 : decode cX7_hears 184 = .ok (.iconst 4, 1) := by decide +kernel
theorem dX7_hears_185 : decode cX7_hears 185 = .ok (.iload_n 2, 1) := by decide +kernel
