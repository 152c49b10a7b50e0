theorem dX7_init_0 : decode cX7_init 0 = .ok (.aload_n 0, 1) := by decide +kernel
theorem dX7_init_1 : decode cX7_init 1 = .ok (.invokespecial 1, 3) := by decide +kernel
theorem dX7_init_4 : decode cX7_init 4 = .ok (.aload_n 0, 1) := by decide +kernel
theorem dX7_init_5 : decode cX7_init 5 = .ok (.bipush 6, 2) := by decide +kernel
theorem dX7_init_7 : decode cX7_init 7 = .ok (.newarray .int, 2) := by decide +kernel
theorem dX7_init_9 : decode cX7_init 9 = .ok (.putfield 7, 3) := by decide +kernel
theorem dX7_init_12 : decode cX7_init 12 = .ok (.aload_n 0, 1) := by decide +kernel
theorem dX7_init_13 : decode cX7_init 13 = .ok (.bipush 6, 2) := by decide +kernel
theorem dX7_init_15 : decode cX7_init 15 = .ok (.newarray .int, 2) := by decide +kernel
theorem dX7_init_17 : decode cX7_init 17 = .ok (.putfield 13, 3) := by decide +kernel
theorem dX7_init_20 : decode cX7_init 20 = .ok (.aload_n 0, 1) := by decide +kernel
theorem dX7_init_21 : decode cX7_init 21 = .ok (.bipush 96, 2) := by decide +kernel
theorem dX7_init_23 : decode cX7_init 23 = .ok (.newarray .long, 2) := by decide +kernel
theorem dX7_init_25 : decode cX7_init 25 = .ok (.putfield 16, 3) := by decide +kernel
theorem dX7_init_28 : decode cX7_init 28 = .ok (.aload_n 0, 1) := by decide +kernel
theorem dX7_init_29 : decode cX7_init 29 = .ok (.iconst 4, 1) := by decide +kernel
theorem dX7_init_30 : decode cX7_init 30 = .ok (.newarray .int, 2) := by decide +kernel
theorem dX7_init_32 : decode cX7_init 32 = .ok (.putfield 20, 3) := by decide +kernel
theorem dX7_init_35 : decode cX7_init 35 = .ok (.aload_n 0, 1) := by decide +kernel
theorem dX7_init_36 : decode cX7_init 36 = .ok (.iconst 4, 1) := by decide +kernel
theorem dX7_init_37 : decode cX7_init 37 = .ok (.newarray .long, 2) := by decide +kernel
theorem dX7_init_39 : decode cX7_init 39 = .ok (.putfield 23, 3) := by decide +kernel
theorem dX7_init_42 : decode cX7_init 42 = .ok (.aload_n 0, 1) := by decide +kernel
theorem dX7_init_43 : decode cX7_init 43 = .ok (.iconst 4, 1) := by decide +kernel
theorem dX7_init_44 : decode cX7_init 44 = .ok (.newarray .long, 2) := by decide +kernel
theorem dX7_init_46 : decode cX7_init 46 = .ok (.putfield 26, 3) := by decide +kernel
theorem dX7_init_49 : decode cX7_init 49 = .ok (.aload_n 0, 1) := by decide +kernel
theorem dX7_init_50 : decode cX7_init 50 = .ok (.iconst 4, 1) := by decide +kernel
theorem dX7_init_51 : decode cX7_init 51 = .ok (.newarray .int, 2) := by decide +kernel
theorem dX7_init_53 : decode cX7_init 53 = .ok (.putfield 29, 3) := by decide +kernel
theorem dX7_init_56 : decode cX7_init 56 = .ok (.aload_n 0, 1) := by decide +kernel
theorem dX7_init_57 : decode cX7_init 57 = .ok (.iconst 4, 1) := by decide +kernel
theorem dX7_init_58 : decode cX7_init 58 = .ok (.newarray .int, 2) := by decide +kernel
theorem dX7_init_60 : decode cX7_init 60 = .ok (.putfield 32, 3) := by decide +kernel
theorem dX7_init_63 : decode cX7_init 63 = .ok (.aload_n 0, 1) := by decide +kernel
theorem dX7_init_64 : decode cX7_init 64 = .ok (.bipush 40, 2) := by decide +kernel
theorem dX7_init_66 : decode cX7_init 66 = .ok (.newarray .int, 2) := by decide +kernel
theorem dX7_init_68 : decode cX7_init 68 = .ok (.putfield 35, 3) := by decide +kernel
theorem dX7_init_71 : decode cX7_init 71 = .ok (.aload_n 0, 1) := by decide +kernel
theorem dX7_init_72 : decode cX7_init 72 = .ok (.sipush 160, 3) := by decide +kernel
theorem dX7_init_75 : decode cX7_init 75 = .ok (.newarray .int, 2) := by decide +kernel
theorem dX7_init_77 : decode cX7_init 77 = .ok (.putfield 38, 3) := by decide +kernel
theorem dX7_init_80 : decode cX7_init 80 = .ok (.aload_n 0, 1) := by decide +kernel
theorem dX7_init_81 : decode cX7_init 81 = .ok (.sipush 160, 3) := by decide +kernel
theorem dX7_init_84 : decode cX7_init 84 = .ok (.newarray .long, 2) := by decide +kernel
theorem dX7_init_86 : decode cX7_init 86 = .ok (.putfield 41, 3) := by decide +kernel
theorem dX7_init_89 : decode cX7_init 89 = .ok (.aload_n 0, 1) := by decide +kernel
theorem dX7_init_90 : decode cX7_init 90 = .ok (.sipush 500, 3) := by decide +kernel
theorem dX7_init_93 : decode cX7_init 93 = .ok (.newarray .int, 2) := by decide +kernel
theorem dX7_init_95 : decode cX7_init 95 = .ok (.putfield 44, 3) := by decide +kernel
theorem dX7_init_98 : decode cX7_init 98 = .ok (.aload_n 0, 1) := by decide +kernel
theorem dX7_init_99 : decode cX7_init 99 = .ok (.sipush 500, 3) := by decide +kernel
theorem dX7_init_102 : decode cX7_init 102 = .ok (.newarray .long, 2) := by decide +kernel
theorem dX7_init_104 : decode cX7_init 104 = .ok (.putfield 47, 3) := by decide +kernel
theorem dX7_init_107 : decode cX7_init 107 = .ok (.aload_n 0, 1) := by decide +kernel
theorem dX7_init_108 : decode cX7_init 108 = .ok (.sipush 500, 3) := by decide +kernel
theorem dX7_init_111 : decode cX7_init 111 = .ok (.newarray .int, 2) := by decide +kernel
theorem dX7_init_113 : decode cX7_init 113 = .ok (.putfield 50, 3) := by decide +kernel
theorem dX7_init_116 : decode cX7_init 116 = .ok (.aload_n 0, 1) := by decide +kernel
theorem dX7_init_117 : decode cX7_init 117 = .ok (.sipush 500, 3) := by decide +kernel
theorem dX7_init_120 : decode cX7_init 120 = .ok (.newarray .int, 2) := by decide +kernel
theorem dX7_init_122 : decode cX7_init 122 = .ok (.putfield 53, 3) := by decide +kernel
theorem dX7_init_125 : decode cX7_init 125 = .ok (.aload_n 0, 1) := by decide +kernel
theorem dX7_init_126 : decode cX7_init 126 = .ok (.sipush 500, 3) := by decide +kernel
theorem dX7_init_129 : decode cX7_init 129 = .ok (.newarray .int, 2) := by decide +kernel
theorem dX7_init_131 : decode cX7_init 131 = .ok (.putfield 56, 3) := by decide +kernel
theorem dX7_init_134 : decode cX7_init 134 = .ok (.aload_n 0, 1) := by decide +kernel
theorem dX7_init_135 : decode cX7_init 135 = .ok (.sipush 1200, 3) := by decide +kernel
theorem dX7_init_138 : decode cX7_init 138 = .ok (.newarray .int, 2) := by decide +kernel
theorem dX7_init_140 : decode cX7_init 140 = .ok (.putfield 59, 3) := by decide +kernel
theorem dX7_init_143 : decode cX7_init 143 = .ok (.aload_n 0, 1) := by decide +kernel
theorem dX7_init_144 : decode cX7_init 144 = .ok (.sipush 500, 3) := by decide +kernel
theorem dX7_init_147 : decode cX7_init 147 = .ok (.newarray .boolean, 2) := by decide +kernel
theorem dX7_init_149 : decode cX7_init 149 = .ok (.putfield 62, 3) := by decide +kernel
theorem dX7_init_152 : decode cX7_init 152 = .ok (.aload_n 0, 1) := by decide +kernel
theorem dX7_init_153 : decode cX7_init 153 = .ok (.bipush 11, 2) := by decide +kernel
theorem dX7_init_155 : decode cX7_init 155 = .ok (.newarray .boolean, 2) := by decide +kernel
theorem dX7_init_157 : decode cX7_init 157 = .ok (.putfield 66, 3) := by decide +kernel
theorem dX7_init_160 : decode cX7_init 160 = .ok (.aload_n 0, 1) := by decide +kernel
theorem dX7_init_161 : decode cX7_init 161 = .ok (.bipush 11, 2) := by decide +kernel
theorem dX7_init_163 : decode cX7_init 163 = .ok (.newarray .int, 2) := by decide +kernel
theorem dX7_init_165 : decode cX7_init 165 = .ok (.putfield 69, 3) := by decide +kernel
theorem dX7_init_168 : decode cX7_init 168 = .ok (.aload_n 0, 1) := by decide +kernel
theorem dX7_init_169 : decode cX7_init 169 = .ok (.bipush 11, 2) := by decide +kernel
theorem dX7_init_171 : decode cX7_init 171 = .ok (.newarray .int, 2) := by decide +kernel
theorem dX7_init_173 : decode cX7_init 173 = .ok (.putfield 72, 3) := by decide +kernel
theorem dX7_init_176 : decode cX7_init 176 = .ok (.aload_n 0, 1) := by decide +kernel
theorem dX7_init_177 : decode cX7_init 177 = .ok (.bipush 11, 2) := by decide +kernel
theorem dX7_init_179 : decode cX7_init 179 = .ok (.newarray .boolean, 2) := by decide +kernel
theorem dX7_init_181 : decode cX7_init 181 = .ok (.putfield 75, 3) := by decide +kernel
theorem dX7_init_184 : decode cX7_init 184 = .ok (.aload_n 0, 1) := by decide +kernel
theorem dX7_init_185 : decode cX7_init 185 = .ok (.bipush 11, 2) := by decide +kernel
theorem dX7_init_187 : decode cX7_init 187 = .ok (.newarray .int, 2) := by decide +kernel
theorem dX7_init_189 : decode cX7_init 189 = .ok (.putfield 78, 3) := by decide +kernel
theorem dX7_init_192 : decode cX7_init 192 = .ok (.aload_n 0, 1) := by decide +kernel
theorem dX7_init_193 : decode cX7_init 193 = .ok (.sipush 5500, 3) := by decide +kernel
theorem dX7_init_196 : decode cX7_init 196 = .ok (.newarray .int, 2) := by decide +kernel
theorem dX7_init_198 : decode cX7_init 198 = .ok (.putfield 81, 3) := by decide +kernel
theorem dX7_init_201 : decode cX7_init 201 = .ok (.aload_n 0, 1) := by decide +kernel
theorem dX7_init_202 : decode cX7_init 202 = .ok (.bipush 8, 2) := by decide +kernel
theorem dX7_init_204 : decode cX7_init 204 = .ok (.newarray .int, 2) := by decide +kernel
theorem dX7_init_206 : decode cX7_init 206 = .ok (.putfield 84, 3) := by decide +kernel
theorem dX7_init_209 : decode cX7_init 209 = .ok (.return_, 1) := by decide +kernel
theorem dX7_thrown_0 : decode cX7_thrown 0 = .ok (.aload_n 0, 1) := by decide +kernel
theorem dX7_thrown_1 : decode cX7_thrown 1 = .ok (.getfield 87, 3) := by decide +kernel
theorem dX7_thrown_4 : decode cX7_thrown 4 = .ok (.ireturn, 1) := by decide +kernel
theorem dX7_in_0 : decode cX7_in 0 = .ok (.lload_n 0, 1) := by decide +kernel
theorem dX7_in_1 : decode cX7_in 1 = .ok (.lload_n 2, 1) := by decide +kernel
theorem dX7_in_2 : decode cX7_in 2 = .ok (.lcmp, 1) := by decide +kernel
theorem dX7_in_3 : decode cX7_in 3 = .ok (.ifCond .lt 14, 3) := by decide +kernel
theorem dX7_in_6 : decode cX7_in 6 = .ok (.lload_n 0, 1) := by decide +kernel
theorem dX7_in_7 : decode cX7_in 7 = .ok (.lload 4, 2) := by decide +kernel
theorem dX7_in_9 : decode cX7_in 9 = .ok (.lcmp, 1) := by decide +kernel
theorem dX7_in_10 : decode cX7_in 10 = .ok (.ifCond .gt 7, 3) := by decide +kernel
theorem dX7_in_13 : decode cX7_in 13 = .ok (.iconst 1, 1) := by decide +kernel
theorem dX7_in_14 : decode cX7_in 14 = .ok (.goto 4, 3) := by decide +kernel
theorem dX7_in_17 : decode cX7_in 17 = .ok (.iconst 0, 1) := by decide +kernel
theorem dX7_in_18 : decode cX7_in 18 = .ok (.ireturn, 1) := by decide +kernel
theorem dX7_isRow_0 : decode cX7_isRow 0 = .ok (.iload_n 0, 1) := by decide +kernel
theorem dX7_isRow_1 : decode cX7_isRow 1 = .ok (.i2l, 1) := by decide +kernel
theorem dX7_isRow_2 : decode cX7_isRow 2 = .ok (.lconst 0, 1) := by decide +kernel
theorem dX7_isRow_3 : decode cX7_isRow 3 = .ok (.ldc2_w 91, 3) := by decide +kernel
theorem dX7_isRow_6 : decode cX7_isRow 6 = .ok (.invokestatic 93, 3) := by decide +kernel
theorem dX7_isRow_9 : decode cX7_isRow 9 = .ok (.ireturn, 1) := by decide +kernel
theorem dX7_row_0 : decode cX7_row 0 = .ok (.aload_n 0, 1) := by decide +kernel
theorem dX7_row_1 : decode cX7_row 1 = .ok (.iconst 0, 1) := by decide +kernel
theorem dX7_row_2 : decode cX7_row 2 = .ok (.putfield 87, 3) := by decide +kernel
theorem dX7_row_5 : decode cX7_row 5 = .ok (.iload_n 1, 1) := by decide +kernel
theorem dX7_row_6 : decode cX7_row 6 = .ok (.invokestatic 97, 3) := by decide +kernel
theorem dX7_row_9 : decode cX7_row 9 = .ok (.ifCond .ne 5, 3) := by decide +kernel
theorem dX7_row_12 : decode cX7_row 12 = .ok (.iconst (-1), 1) := by decide +kernel
theorem dX7_row_13 : decode cX7_row 13 = .ok (.ireturn, 1) := by decide +kernel
theorem dX7_row_14 : decode cX7_row 14 = .ok (.iload_n 2, 1) := by decide +kernel
theorem dX7_row_15 : decode cX7_row 15 = .ok (.i2l, 1) := by decide +kernel
theorem dX7_row_16 : decode cX7_row 16 = .ok (.lconst 0, 1) := by decide +kernel
theorem dX7_row_17 : decode cX7_row 17 = .ok (.ldc2_w 101, 3) := by decide +kernel
theorem dX7_row_20 : decode cX7_row 20 = .ok (.invokestatic 93, 3) := by decide +kernel
theorem dX7_row_23 : decode cX7_row 23 = .ok (.ifCond .eq 15, 3) := by decide +kernel
theorem dX7_row_26 : decode cX7_row 26 = .ok (.iload_n 3, 1) := by decide +kernel
theorem dX7_row_27 : decode cX7_row 27 = .ok (.i2l, 1) := by decide +kernel
theorem dX7_row_28 : decode cX7_row 28 = .ok (.lconst 0, 1) := by decide +kernel
theorem dX7_row_29 : decode cX7_row 29 = .ok (.ldc2_w 103, 3) := by decide +kernel
theorem dX7_row_32 : decode cX7_row 32 = .ok (.invokestatic 93, 3) := by decide +kernel
theorem dX7_row_35 : decode cX7_row 35 = .ok (.ifCond .ne 6, 3) := by decide +kernel
theorem dX7_row_38 : decode cX7_row 38 = .ok (.bipush (-2), 2) := by decide +kernel
theorem dX7_row_40 : decode cX7_row 40 = .ok (.ireturn, 1) := by decide +kernel
theorem dX7_row_41 : decode cX7_row 41 = .ok (.aload_n 0, 1) := by decide +kernel
theorem dX7_row_42 : decode cX7_row 42 = .ok (.getfield 7, 3) := by decide +kernel
theorem dX7_row_45 : decode cX7_row 45 = .ok (.iload_n 1, 1) := by decide +kernel
theorem dX7_row_46 : decode cX7_row 46 = .ok (.iload_n 2, 1) := by decide +kernel
theorem dX7_row_47 : decode cX7_row 47 = .ok (.iastore, 1) := by decide +kernel
theorem dX7_row_48 : decode cX7_row 48 = .ok (.aload_n 0, 1) := by decide +kernel
theorem dX7_row_49 : decode cX7_row 49 = .ok (.getfield 13, 3) := by decide +kernel
theorem dX7_row_52 : decode cX7_row 52 = .ok (.iload_n 1, 1) := by decide +kernel
theorem dX7_row_53 : decode cX7_row 53 = .ok (.iload_n 2, 1) := by decide +kernel
theorem dX7_row_54 : decode cX7_row 54 = .ok (.ifCond .ne 7, 3) := by decide +kernel
theorem dX7_row_57 : decode cX7_row 57 = .ok (.iconst 0, 1) := by decide +kernel
theorem dX7_row_58 : decode cX7_row 58 = .ok (.goto 4, 3) := by decide +kernel
theorem dX7_row_61 : decode cX7_row 61 = .ok (.iload_n 3, 1) := by decide +kernel
theorem dX7_row_62 : decode cX7_row 62 = .ok (.iastore, 1) := by decide +kernel
theorem dX7_row_63 : decode cX7_row 63 = .ok (.iconst 0, 1) := by decide +kernel
theorem dX7_row_64 : decode cX7_row 64 = .ok (.istore 4, 2) := by decide +kernel
theorem dX7_row_66 : decode cX7_row 66 = .ok (.iload 4, 2) := by decide +kernel
theorem dX7_row_68 : decode cX7_row 68 = .ok (.bipush 16, 2) := by decide +kernel
theorem dX7_row_70 : decode cX7_row 70 = .ok (.if_icmp .ge 22, 3) := by decide +kernel
theorem dX7_row_73 : decode cX7_row 73 = .ok (.aload_n 0, 1) := by decide +kernel
theorem dX7_row_74 : decode cX7_row 74 = .ok (.getfield 16, 3) := by decide +kernel
theorem dX7_row_77 : decode cX7_row 77 = .ok (.bipush 16, 2) := by decide +kernel
theorem dX7_row_79 : decode cX7_row 79 = .ok (.iload_n 1, 1) := by decide +kernel
theorem dX7_row_80 : decode cX7_row 80 = .ok (.imul, 1) := by decide +kernel
theorem dX7_row_81 : decode cX7_row 81 = .ok (.iload 4, 2) := by decide +kernel
theorem dX7_row_83 : decode cX7_row 83 = .ok (.iadd, 1) := by decide +kernel
theorem dX7_row_84 : decode cX7_row 84 = .ok (.lconst 0, 1) := by decide +kernel
theorem dX7_row_85 : decode cX7_row 85 = .ok (.lastore, 1) := by decide +kernel
theorem dX7_row_86 : decode cX7_row 86 = .ok (.iinc 4 1, 3) := by decide +kernel
theorem dX7_row_89 : decode cX7_row 89 = .ok (.goto (-23), 3) := by decide +kernel
theorem dX7_row_92 : decode cX7_row 92 = .ok (.iconst 1, 1) := by decide +kernel
theorem dX7_row_93 : decode cX7_row 93 = .ok (.ireturn, 1) := by decide +kernel
theorem dX7_set_0 : decode cX7_set 0 = .ok (.aload_n 0, 1) := by decide +kernel
theorem dX7_set_1 : decode cX7_set 1 = .ok (.iconst 0, 1) := by decide +kernel
theorem dX7_set_2 : decode cX7_set 2 = .ok (.putfield 87, 3) := by decide +kernel
theorem dX7_set_5 : decode cX7_set 5 = .ok (.iload_n 1, 1) := by decide +kernel
theorem dX7_set_6 : decode cX7_set 6 = .ok (.invokestatic 97, 3) := by decide +kernel
theorem dX7_set_9 : decode cX7_set 9 = .ok (.ifCond .eq 21, 3) := by decide +kernel
theorem dX7_set_12 : decode cX7_set 12 = .ok (.iload_n 2, 1) := by decide +kernel
theorem dX7_set_13 : decode cX7_set 13 = .ok (.i2l, 1) := by decide +kernel
theorem dX7_set_14 : decode cX7_set 14 = .ok (.lconst 0, 1) := by decide +kernel
theorem dX7_set_15 : decode cX7_set 15 = .ok (.aload_n 0, 1) := by decide +kernel
theorem dX7_set_16 : decode cX7_set 16 = .ok (.getfield 13, 3) := by decide +kernel
theorem dX7_set_19 : decode cX7_set 19 = .ok (.iload_n 1, 1) := by decide +kernel
theorem dX7_set_20 : decode cX7_set 20 = .ok (.iaload, 1) := by decide +kernel
theorem dX7_set_21 : decode cX7_set 21 = .ok (.iconst 1, 1) := by decide +kernel
theorem dX7_set_22 : decode cX7_set 22 = .ok (.isub, 1) := by decide +kernel
theorem dX7_set_23 : decode cX7_set 23 = .ok (.i2l, 1) := by decide +kernel
theorem dX7_set_24 : decode cX7_set 24 = .ok (.invokestatic 93, 3) := by decide +kernel
theorem dX7_set_27 : decode cX7_set 27 = .ok (.ifCond .ne 5, 3) := by decide +kernel
theorem dX7_set_30 : decode cX7_set 30 = .ok (.iconst (-1), 1) := by decide +kernel
theorem dX7_set_31 : decode cX7_set 31 = .ok (.ireturn, 1) := by decide +kernel
theorem dX7_set_32 : decode cX7_set 32 = .ok (.aload_n 0, 1) := by decide +kernel
theorem dX7_set_33 : decode cX7_set 33 = .ok (.getfield 16, 3) := by decide +kernel
theorem dX7_set_36 : decode cX7_set 36 = .ok (.bipush 16, 2) := by decide +kernel
theorem dX7_set_38 : decode cX7_set 38 = .ok (.iload_n 1, 1) := by decide +kernel
theorem dX7_set_39 : decode cX7_set 39 = .ok (.imul, 1) := by decide +kernel
theorem dX7_set_40 : decode cX7_set 40 = .ok (.iload_n 2, 1) := by decide +kernel
theorem dX7_set_41 : decode cX7_set 41 = .ok (.iadd, 1) := by decide +kernel
theorem dX7_set_42 : decode cX7_set 42 = .ok (.aload_n 0, 1) := by decide +kernel
theorem dX7_set_43 : decode cX7_set 43 = .ok (.getfield 7, 3) := by decide +kernel
theorem dX7_set_46 : decode cX7_set 46 = .ok (.iload_n 1, 1) := by decide +kernel
theorem dX7_set_47 : decode cX7_set 47 = .ok (.iaload, 1) := by decide +kernel
theorem dX7_set_48 : decode cX7_set 48 = .ok (.iconst 1, 1) := by decide +kernel
theorem dX7_set_49 : decode cX7_set 49 = .ok (.if_icmp .ne 9, 3) := by decide +kernel
theorem dX7_set_52 : decode cX7_set 52 = .ok (.lload_n 3, 1) := by decide +kernel
theorem dX7_set_53 : decode cX7_set 53 = .ok (.l2i, 1) := by decide +kernel
theorem dX7_set_54 : decode cX7_set 54 = .ok (.i2l, 1) := by decide +kernel
theorem dX7_set_55 : decode cX7_set 55 = .ok (.goto 21, 3) := by decide +kernel
theorem dX7_set_58 : decode cX7_set 58 = .ok (.aload_n 0, 1) := by decide +kernel
theorem dX7_set_59 : decode cX7_set 59 = .ok (.getfield 7, 3) := by decide +kernel
theorem dX7_set_62 : decode cX7_set 62 = .ok (.iload_n 1, 1) := by decide +kernel
theorem dX7_set_63 : decode cX7_set 63 = .ok (.iaload, 1) := by decide +kernel
theorem dX7_set_64 : decode cX7_set 64 = .ok (.iconst 2, 1) := by decide +kernel
theorem dX7_set_65 : decode cX7_set 65 = .ok (.if_icmp .ne 10, 3) := by decide +kernel
theorem dX7_set_68 : decode cX7_set 68 = .ok (.lload_n 3, 1) := by decide +kernel
theorem dX7_set_69 : decode cX7_set 69 = .ok (.l2i, 1) := by decide +kernel
theorem dX7_set_70 : decode cX7_set 70 = .ok (.i2b, 1) := by decide +kernel
theorem dX7_set_71 : decode cX7_set 71 = .ok (.i2l, 1) := by decide +kernel
theorem dX7_set_72 : decode cX7_set 72 = .ok (.goto 4, 3) := by decide +kernel
theorem dX7_set_75 : decode cX7_set 75 = .ok (.lload_n 3, 1) := by decide +kernel
theorem dX7_set_76 : decode cX7_set 76 = .ok (.lastore, 1) := by decide +kernel
theorem dX7_set_77 : decode cX7_set 77 = .ok (.iconst 1, 1) := by decide +kernel
theorem dX7_set_78 : decode cX7_set 78 = .ok (.ireturn, 1) := by decide +kernel
theorem dX7_isPipe_0 : decode cX7_isPipe 0 = .ok (.iload_n 0, 1) := by decide +kernel
theorem dX7_isPipe_1 : decode cX7_isPipe 1 = .ok (.i2l, 1) := by decide +kernel
theorem dX7_isPipe_2 : decode cX7_isPipe 2 = .ok (.lconst 0, 1) := by decide +kernel
theorem dX7_isPipe_3 : decode cX7_isPipe 3 = .ok (.ldc2_w 101, 3) := by decide +kernel
theorem dX7_isPipe_6 : decode cX7_isPipe 6 = .ok (.invokestatic 93, 3) := by decide +kernel
theorem dX7_isPipe_9 : decode cX7_isPipe 9 = .ok (.ireturn, 1) := by decide +kernel
theorem dX7_isAct_0 : decode cX7_isAct 0 = .ok (.iload_n 1, 1) := by decide +kernel
theorem dX7_isAct_1 : decode cX7_isAct 1 = .ok (.invokestatic 105, 3) := by decide +kernel
theorem dX7_isAct_4 : decode cX7_isAct 4 = .ok (.ifCond .eq 25, 3) := by decide +kernel
theorem dX7_isAct_7 : decode cX7_isAct 7 = .ok (.iload_n 2, 1) := by decide +kernel
theorem dX7_isAct_8 : decode cX7_isAct 8 = .ok (.i2l, 1) := by decide +kernel
theorem dX7_isAct_9 : decode cX7_isAct 9 = .ok (.lconst 0, 1) := by decide +kernel
theorem dX7_isAct_10 : decode cX7_isAct 10 = .ok (.aload_n 0, 1) := by decide +kernel
theorem dX7_isAct_11 : decode cX7_isAct 11 = .ok (.getfield 32, 3) := by decide +kernel
theorem dX7_isAct_14 : decode cX7_isAct 14 = .ok (.iload_n 1, 1) := by decide +kernel
theorem dX7_isAct_15 : decode cX7_isAct 15 = .ok (.iaload, 1) := by decide +kernel
theorem dX7_isAct_16 : decode cX7_isAct 16 = .ok (.iconst 1, 1) := by decide +kernel
theorem dX7_isAct_17 : decode cX7_isAct 17 = .ok (.isub, 1) := by decide +kernel
theorem dX7_isAct_18 : decode cX7_isAct 18 = .ok (.i2l, 1) := by decide +kernel
theorem dX7_isAct_19 : decode cX7_isAct 19 = .ok (.invokestatic 93, 3) := by decide +kernel
theorem dX7_isAct_22 : decode cX7_isAct 22 = .ok (.ifCond .eq 7, 3) := by decide +kernel
theorem dX7_isAct_25 : decode cX7_isAct 25 = .ok (.iconst 1, 1) := by decide +kernel
theorem dX7_isAct_26 : decode cX7_isAct 26 = .ok (.goto 4, 3) := by decide +kernel
theorem dX7_isAct_29 : decode cX7_isAct 29 = .ok (.iconst 0, 1) := by decide +kernel
theorem dX7_isAct_30 : decode cX7_isAct 30 = .ok (.ireturn, 1) := by decide +kernel
theorem dX7_range_0 : decode cX7_range 0 = .ok (.aload_n 0, 1) := by decide +kernel
theorem dX7_range_1 : decode cX7_range 1 = .ok (.iconst 0, 1) := by decide +kernel
theorem dX7_range_2 : decode cX7_range 2 = .ok (.putfield 87, 3) := by decide +kernel
theorem dX7_range_5 : decode cX7_range 5 = .ok (.iload_n 1, 1) := by decide +kernel
theorem dX7_range_6 : decode cX7_range 6 = .ok (.invokestatic 105, 3) := by decide +kernel
theorem dX7_range_9 : decode cX7_range 9 = .ok (.ifCond .ne 5, 3) := by decide +kernel
theorem dX7_range_12 : decode cX7_range 12 = .ok (.iconst (-1), 1) := by decide +kernel
theorem dX7_range_13 : decode cX7_range 13 = .ok (.ireturn, 1) := by decide +kernel
theorem dX7_range_14 : decode cX7_range 14 = .ok (.iload 6, 2) := by decide +kernel
theorem dX7_range_16 : decode cX7_range 16 = .ok (.i2l, 1) := by decide +kernel
theorem dX7_range_17 : decode cX7_range 17 = .ok (.ldc2_w 108, 3) := by decide +kernel
theorem dX7_range_20 : decode cX7_range 20 = .ok (.ldc2_w 110, 3) := by decide +kernel
theorem dX7_range_23 : decode cX7_range 23 = .ok (.invokestatic 93, 3) := by decide +kernel
theorem dX7_range_26 : decode cX7_range 26 = .ok (.ifCond .ne 6, 3) := by decide +kernel
theorem dX7_range_29 : decode cX7_range 29 = .ok (.bipush (-2), 2) := by decide +kernel
theorem dX7_range_31 : decode cX7_range 31 = .ok (.ireturn, 1) := by decide +kernel
theorem dX7_range_32 : decode cX7_range 32 = .ok (.aload_n 0, 1) := by decide +kernel
theorem dX7_range_33 : decode cX7_range 33 = .ok (.getfield 20, 3) := by decide +kernel
theorem dX7_range_36 : decode cX7_range 36 = .ok (.iload_n 1, 1) := by decide +kernel
theorem dX7_range_37 : decode cX7_range 37 = .ok (.iconst 0, 1) := by decide +kernel
theorem dX7_range_38 : decode cX7_range 38 = .ok (.iastore, 1) := by decide +kernel
theorem dX7_range_39 : decode cX7_range 39 = .ok (.aload_n 0, 1) := by decide +kernel
theorem dX7_range_40 : decode cX7_range 40 = .ok (.getfield 23, 3) := by decide +kernel
theorem dX7_range_43 : decode cX7_range 43 = .ok (.iload_n 1, 1) := by decide +kernel
theorem dX7_range_44 : decode cX7_range 44 = .ok (.lload_n 2, 1) := by decide +kernel
theorem dX7_range_45 : decode cX7_range 45 = .ok (.lastore, 1) := by decide +kernel
theorem dX7_range_46 : decode cX7_range 46 = .ok (.aload_n 0, 1) := by decide +kernel
theorem dX7_range_47 : decode cX7_range 47 = .ok (.getfield 26, 3) := by decide +kernel
theorem dX7_range_50 : decode cX7_range 50 = .ok (.iload_n 1, 1) := by decide +kernel
theorem dX7_range_51 : decode cX7_range 51 = .ok (.lload 4, 2) := by decide +kernel
theorem dX7_range_53 : decode cX7_range 53 = .ok (.lastore, 1) := by decide +kernel
theorem dX7_range_54 : decode cX7_range 54 = .ok (.aload_n 0, 1) := by decide +kernel
theorem dX7_range_55 : decode cX7_range 55 = .ok (.getfield 29, 3) := by decide +kernel
theorem dX7_range_58 : decode cX7_range 58 = .ok (.iload_n 1, 1) := by decide +kernel
theorem dX7_range_59 : decode cX7_range 59 = .ok (.iload 6, 2) := by decide +kernel
theorem dX7_range_61 : decode cX7_range 61 = .ok (.iastore, 1) := by decide +kernel
theorem dX7_range_62 : decode cX7_range 62 = .ok (.aload_n 0, 1) := by decide +kernel
theorem dX7_range_63 : decode cX7_range 63 = .ok (.getfield 32, 3) := by decide +kernel
theorem dX7_range_66 : decode cX7_range 66 = .ok (.iload_n 1, 1) := by decide +kernel
theorem dX7_range_67 : decode cX7_range 67 = .ok (.iconst 0, 1) := by decide +kernel
theorem dX7_range_68 : decode cX7_range 68 = .ok (.iastore, 1) := by decide +kernel
theorem dX7_range_69 : decode cX7_range 69 = .ok (.iconst 1, 1) := by decide +kernel
theorem dX7_range_70 : decode cX7_range 70 = .ok (.ireturn, 1) := by decide +kernel
theorem dX7_fromRow_0 : decode cX7_fromRow 0 = .ok (.aload_n 0, 1) := by decide +kernel
theorem dX7_fromRow_1 : decode cX7_fromRow 1 = .ok (.iconst 0, 1) := by decide +kernel
theorem dX7_fromRow_2 : decode cX7_fromRow 2 = .ok (.putfield 87, 3) := by decide +kernel
theorem dX7_fromRow_5 : decode cX7_fromRow 5 = .ok (.iload_n 1, 1) := by decide +kernel
theorem dX7_fromRow_6 : decode cX7_fromRow 6 = .ok (.invokestatic 105, 3) := by decide +kernel
theorem dX7_fromRow_9 : decode cX7_fromRow 9 = .ok (.ifCond .eq 10, 3) := by decide +kernel
theorem dX7_fromRow_12 : decode cX7_fromRow 12 = .ok (.iload_n 2, 1) := by decide +kernel
theorem dX7_fromRow_13 : decode cX7_fromRow 13 = .ok (.invokestatic 97, 3) := by decide +kernel
theorem dX7_fromRow_16 : decode cX7_fromRow 16 = .ok (.ifCond .ne 5, 3) := by decide +kernel
theorem dX7_fromRow_19 : decode cX7_fromRow 19 = .ok (.iconst (-1), 1) := by decide +kernel
theorem dX7_fromRow_20 : decode cX7_fromRow 20 = .ok (.ireturn, 1) := by decide +kernel
theorem dX7_fromRow_21 : decode cX7_fromRow 21 = .ok (.aload_n 0, 1) := by decide +kernel
theorem dX7_fromRow_22 : decode cX7_fromRow 22 = .ok (.getfield 20, 3) := by decide +kernel
theorem dX7_fromRow_25 : decode cX7_fromRow 25 = .ok (.iload_n 1, 1) := by decide +kernel
theorem dX7_fromRow_26 : decode cX7_fromRow 26 = .ok (.iconst 1, 1) := by decide +kernel
theorem dX7_fromRow_27 : decode cX7_fromRow 27 = .ok (.iastore, 1) := by decide +kernel
theorem dX7_fromRow_28 : decode cX7_fromRow 28 = .ok (.aload_n 0, 1) := by decide +kernel
theorem dX7_fromRow_29 : decode cX7_fromRow 29 = .ok (.getfield 29, 3) := by decide +kernel
theorem dX7_fromRow_32 : decode cX7_fromRow 32 = .ok (.iload_n 1, 1) := by decide +kernel
theorem dX7_fromRow_33 : decode cX7_fromRow 33 = .ok (.iload_n 2, 1) := by decide +kernel
theorem dX7_fromRow_34 : decode cX7_fromRow 34 = .ok (.iastore, 1) := by decide +kernel
theorem dX7_fromRow_35 : decode cX7_fromRow 35 = .ok (.aload_n 0, 1) := by decide +kernel
theorem dX7_fromRow_36 : decode cX7_fromRow 36 = .ok (.getfield 32, 3) := by decide +kernel
theorem dX7_fromRow_39 : decode cX7_fromRow 39 = .ok (.iload_n 1, 1) := by decide +kernel
theorem dX7_fromRow_40 : decode cX7_fromRow 40 = .ok (.iconst 0, 1) := by decide +kernel
theorem dX7_fromRow_41 : decode cX7_fromRow 41 = .ok (.iastore, 1) := by decide +kernel
theorem dX7_fromRow_42 : decode cX7_fromRow 42 = .ok (.iconst 1, 1) := by decide +kernel
theorem dX7_fromRow_43 : decode cX7_fromRow 43 = .ok (.ireturn, 1) := by decide +kernel
theorem dX7_act_0 : decode cX7_act 0 = .ok (.aload_n 0, 1) := by decide +kernel
theorem dX7_act_1 : decode cX7_act 1 = .ok (.iconst 0, 1) := by decide +kernel
theorem dX7_act_2 : decode cX7_act 2 = .ok (.putfield 87, 3) := by decide +kernel
theorem dX7_act_5 : decode cX7_act 5 = .ok (.iload_n 1, 1) := by decide +kernel
theorem dX7_act_6 : decode cX7_act 6 = .ok (.invokestatic 105, 3) := by decide +kernel
theorem dX7_act_9 : decode cX7_act 9 = .ok (.ifCond .ne 5, 3) := by decide +kernel
theorem dX7_act_12 : decode cX7_act 12 = .ok (.iconst (-1), 1) := by decide +kernel
theorem dX7_act_13 : decode cX7_act 13 = .ok (.ireturn, 1) := by decide +kernel
theorem dX7_act_14 : decode cX7_act 14 = .ok (.iload_n 2, 1) := by decide +kernel
theorem dX7_act_15 : decode cX7_act 15 = .ok (.i2l, 1) := by decide +kernel
theorem dX7_act_16 : decode cX7_act 16 = .ok (.lconst 0, 1) := by decide +kernel
theorem dX7_act_17 : decode cX7_act 17 = .ok (.ldc2_w 112, 3) := by decide +kernel
theorem dX7_act_20 : decode cX7_act 20 = .ok (.invokestatic 93, 3) := by decide +kernel
theorem dX7_act_23 : decode cX7_act 23 = .ok (.ifCond .eq 42, 3) := by decide +kernel
theorem dX7_act_26 : decode cX7_act 26 = .ok (.iload_n 2, 1) := by decide +kernel
theorem dX7_act_27 : decode cX7_act 27 = .ok (.iconst 3, 1) := by decide +kernel
theorem dX7_act_28 : decode cX7_act 28 = .ok (.if_icmp .ne 14, 3) := by decide +kernel
theorem dX7_act_31 : decode cX7_act 31 = .ok (.lload_n 3, 1) := by decide +kernel
theorem dX7_act_32 : decode cX7_act 32 = .ok (.lconst 0, 1) := by decide +kernel
theorem dX7_act_33 : decode cX7_act 33 = .ok (.ldc2_w 91, 3) := by decide +kernel
theorem dX7_act_36 : decode cX7_act 36 = .ok (.invokestatic 93, 3) := by decide +kernel
theorem dX7_act_39 : decode cX7_act 39 = .ok (.ifCond .eq 26, 3) := by decide +kernel
theorem dX7_act_42 : decode cX7_act 42 = .ok (.iload_n 2, 1) := by decide +kernel
theorem dX7_act_43 : decode cX7_act 43 = .ok (.bipush 7, 2) := by decide +kernel
theorem dX7_act_45 : decode cX7_act 45 = .ok (.if_icmp .eq 9, 3) := by decide +kernel
theorem dX7_act_48 : decode cX7_act 48 = .ok (.iload_n 2, 1) := by decide +kernel
theorem dX7_act_49 : decode cX7_act 49 = .ok (.bipush 8, 2) := by decide +kernel
theorem dX7_act_51 : decode cX7_act 51 = .ok (.if_icmp .ne 17, 3) := by decide +kernel
theorem dX7_act_54 : decode cX7_act 54 = .ok (.lload_n 3, 1) := by decide +kernel
theorem dX7_act_55 : decode cX7_act 55 = .ok (.lconst 0, 1) := by decide +kernel
theorem dX7_act_56 : decode cX7_act 56 = .ok (.ldc2_w 114, 3) := by decide +kernel
theorem dX7_act_59 : decode cX7_act 59 = .ok (.invokestatic 93, 3) := by decide +kernel
theorem dX7_act_62 : decode cX7_act 62 = .ok (.ifCond .ne 6, 3) := by decide +kernel
theorem dX7_act_65 : decode cX7_act 65 = .ok (.bipush (-2), 2) := by decide +kernel
theorem dX7_act_67 : decode cX7_act 67 = .ok (.ireturn, 1) := by decide +kernel
theorem dX7_act_68 : decode cX7_act 68 = .ok (.aload_n 0, 1) := by decide +kernel
theorem dX7_act_69 : decode cX7_act 69 = .ok (.getfield 32, 3) := by decide +kernel
theorem dX7_act_72 : decode cX7_act 72 = .ok (.iload_n 1, 1) := by decide +kernel
theorem dX7_act_73 : decode cX7_act 73 = .ok (.iaload, 1) := by decide +kernel
theorem dX7_act_74 : decode cX7_act 74 = .ok (.bipush 10, 2) := by decide +kernel
theorem dX7_act_76 : decode cX7_act 76 = .ok (.if_icmp .ne 6, 3) := by decide +kernel
theorem dX7_act_79 : decode cX7_act 79 = .ok (.bipush (-4), 2) := by decide +kernel
theorem dX7_act_81 : decode cX7_act 81 = .ok (.ireturn, 1) := by decide +kernel
theorem dX7_act_82 : decode cX7_act 82 = .ok (.bipush 10, 2) := by decide +kernel
theorem dX7_act_84 : decode cX7_act 84 = .ok (.iload_n 1, 1) := by decide +kernel
theorem dX7_act_85 : decode cX7_act 85 = .ok (.imul, 1) := by decide +kernel
theorem dX7_act_86 : decode cX7_act 86 = .ok (.aload_n 0, 1) := by decide +kernel
theorem dX7_act_87 : decode cX7_act 87 = .ok (.getfield 32, 3) := by decide +kernel
theorem dX7_act_90 : decode cX7_act 90 = .ok (.iload_n 1, 1) := by decide +kernel
theorem dX7_act_91 : decode cX7_act 91 = .ok (.iaload, 1) := by decide +kernel
theorem dX7_act_92 : decode cX7_act 92 = .ok (.iadd, 1) := by decide +kernel
theorem dX7_act_93 : decode cX7_act 93 = .ok (.istore 5, 2) := by decide +kernel
theorem dX7_act_95 : decode cX7_act 95 = .ok (.aload_n 0, 1) := by decide +kernel
theorem dX7_act_96 : decode cX7_act 96 = .ok (.getfield 35, 3) := by decide +kernel
theorem dX7_act_99 : decode cX7_act 99 = .ok (.iload 5, 2) := by decide +kernel
theorem dX7_act_101 : decode cX7_act 101 = .ok (.iconst 1, 1) := by decide +kernel
theorem dX7_act_102 : decode cX7_act 102 = .ok (.iastore, 1) := by decide +kernel
theorem dX7_act_103 : decode cX7_act 103 = .ok (.aload_n 0, 1) := by decide +kernel
theorem dX7_act_104 : decode cX7_act 104 = .ok (.getfield 38, 3) := by decide +kernel
theorem dX7_act_107 : decode cX7_act 107 = .ok (.iconst 4, 1) := by decide +kernel
theorem dX7_act_108 : decode cX7_act 108 = .ok (.iload 5, 2) := by decide +kernel
theorem dX7_act_110 : decode cX7_act 110 = .ok (.imul, 1) := by decide +kernel
theorem dX7_act_111 : decode cX7_act 111 = .ok (.iload_n 2, 1) := by decide +kernel
theorem dX7_act_112 : decode cX7_act 112 = .ok (.iastore, 1) := by decide +kernel
theorem dX7_act_113 : decode cX7_act 113 = .ok (.aload_n 0, 1) := by decide +kernel
theorem dX7_act_114 : decode cX7_act 114 = .ok (.getfield 41, 3) := by decide +kernel
theorem dX7_act_117 : decode cX7_act 117 = .ok (.iconst 4, 1) := by decide +kernel
theorem dX7_act_118 : decode cX7_act 118 = .ok (.iload 5, 2) := by decide +kernel
theorem dX7_act_120 : decode cX7_act 120 = .ok (.imul, 1) := by decide +kernel
theorem dX7_act_121 : decode cX7_act 121 = .ok (.iload_n 2, 1) := by decide +kernel
theorem dX7_act_122 : decode cX7_act 122 = .ok (.iconst 5, 1) := by decide +kernel
theorem dX7_act_123 : decode cX7_act 123 = .ok (.if_icmp .eq 9, 3) := by decide +kernel
theorem dX7_act_126 : decode cX7_act 126 = .ok (.iload_n 2, 1) := by decide +kernel
theorem dX7_act_127 : decode cX7_act 127 = .ok (.bipush 9, 2) := by decide +kernel
theorem dX7_act_129 : decode cX7_act 129 = .ok (.if_icmp .le 7, 3) := by decide +kernel
theorem dX7_act_132 : decode cX7_act 132 = .ok (.lconst 0, 1) := by decide +kernel
theorem dX7_act_133 : decode cX7_act 133 = .ok (.goto 4, 3) := by decide +kernel
theorem dX7_act_136 : decode cX7_act 136 = .ok (.lload_n 3, 1) := by decide +kernel
theorem dX7_act_137 : decode cX7_act 137 = .ok (.lastore, 1) := by decide +kernel
theorem dX7_act_138 : decode cX7_act 138 = .ok (.aload_n 0, 1) := by decide +kernel
theorem dX7_act_139 : decode cX7_act 139 = .ok (.getfield 32, 3) := by decide +kernel
theorem dX7_act_142 : decode cX7_act 142 = .ok (.iload_n 1, 1) := by decide +kernel
theorem dX7_act_143 : decode cX7_act 143 = .ok (.dup2, 1) := by decide +kernel
theorem dX7_act_144 : decode cX7_act 144 = .ok (.iaload, 1) := by decide +kernel
theorem dX7_act_145 : decode cX7_act 145 = .ok (.iconst 1, 1) := by decide +kernel
theorem dX7_act_146 : decode cX7_act 146 = .ok (.iadd, 1) := by decide +kernel
theorem dX7_act_147 : decode cX7_act 147 = .ok (.iastore, 1) := by decide +kernel
theorem dX7_act_148 : decode cX7_act 148 = .ok (.aload_n 0, 1) := by decide +kernel
theorem dX7_act_149 : decode cX7_act 149 = .ok (.getfield 32, 3) := by decide +kernel
theorem dX7_act_152 : decode cX7_act 152 = .ok (.iload_n 1, 1) := by decide +kernel
theorem dX7_act_153 : decode cX7_act 153 = .ok (.iaload, 1) := by decide +kernel
theorem dX7_act_154 : decode cX7_act 154 = .ok (.ireturn, 1) := by decide +kernel
theorem dX7_twin_0 : decode cX7_twin 0 = .ok (.aload_n 0, 1) := by decide +kernel
theorem dX7_twin_1 : decode cX7_twin 1 = .ok (.iconst 0, 1) := by decide +kernel
theorem dX7_twin_2 : decode cX7_twin 2 = .ok (.putfield 87, 3) := by decide +kernel
theorem dX7_twin_5 : decode cX7_twin 5 = .ok (.iload_n 1, 1) := by decide +kernel
theorem dX7_twin_6 : decode cX7_twin 6 = .ok (.invokestatic 105, 3) := by decide +kernel
theorem dX7_twin_9 : decode cX7_twin 9 = .ok (.ifCond .eq 10, 3) := by decide +kernel
theorem dX7_twin_12 : decode cX7_twin 12 = .ok (.iload_n 2, 1) := by decide +kernel
theorem dX7_twin_13 : decode cX7_twin 13 = .ok (.invokestatic 105, 3) := by decide +kernel
theorem dX7_twin_16 : decode cX7_twin 16 = .ok (.ifCond .ne 5, 3) := by decide +kernel
theorem dX7_twin_19 : decode cX7_twin 19 = .ok (.iconst (-1), 1) := by decide +kernel
theorem dX7_twin_20 : decode cX7_twin 20 = .ok (.ireturn, 1) := by decide +kernel
theorem dX7_twin_21 : decode cX7_twin 21 = .ok (.aload_n 0, 1) := by decide +kernel
theorem dX7_twin_22 : decode cX7_twin 22 = .ok (.getfield 20, 3) := by decide +kernel
theorem dX7_twin_25 : decode cX7_twin 25 = .ok (.iload_n 1, 1) := by decide +kernel
theorem dX7_twin_26 : decode cX7_twin 26 = .ok (.aload_n 0, 1) := by decide +kernel
theorem dX7_twin_27 : decode cX7_twin 27 = .ok (.getfield 20, 3) := by decide +kernel
theorem dX7_twin_30 : decode cX7_twin 30 = .ok (.iload_n 2, 1) := by decide +kernel
theorem dX7_twin_31 : decode cX7_twin 31 = .ok (.iaload, 1) := by decide +kernel
theorem dX7_twin_32 : decode cX7_twin 32 = .ok (.iastore, 1) := by decide +kernel
theorem dX7_twin_33 : decode cX7_twin 33 = .ok (.aload_n 0, 1) := by decide +kernel
theorem dX7_twin_34 : decode cX7_twin 34 = .ok (.getfield 23, 3) := by decide +kernel
theorem dX7_twin_37 : decode cX7_twin 37 = .ok (.iload_n 1, 1) := by decide +kernel
theorem dX7_twin_38 : decode cX7_twin 38 = .ok (.aload_n 0, 1) := by decide +kernel
theorem dX7_twin_39 : decode cX7_twin 39 = .ok (.getfield 23, 3) := by decide +kernel
theorem dX7_twin_42 : decode cX7_twin 42 = .ok (.iload_n 2, 1) := by decide +kernel
theorem dX7_twin_43 : decode cX7_twin 43 = .ok (.laload, 1) := by decide +kernel
theorem dX7_twin_44 : decode cX7_twin 44 = .ok (.lastore, 1) := by decide +kernel
theorem dX7_twin_45 : decode cX7_twin 45 = .ok (.aload_n 0, 1) := by decide +kernel
theorem dX7_twin_46 : decode cX7_twin 46 = .ok (.getfield 26, 3) := by decide +kernel
theorem dX7_twin_49 : decode cX7_twin 49 = .ok (.iload_n 1, 1) := by decide +kernel
theorem dX7_twin_50 : decode cX7_twin 50 = .ok (.aload_n 0, 1) := by decide +kernel
theorem dX7_twin_51 : decode cX7_twin 51 = .ok (.getfield 26, 3) := by decide +kernel
theorem dX7_twin_54 : decode cX7_twin 54 = .ok (.iload_n 2, 1) := by decide +kernel
theorem dX7_twin_55 : decode cX7_twin 55 = .ok (.laload, 1) := by decide +kernel
theorem dX7_twin_56 : decode cX7_twin 56 = .ok (.lastore, 1) := by decide +kernel
theorem dX7_twin_57 : decode cX7_twin 57 = .ok (.aload_n 0, 1) := by decide +kernel
theorem dX7_twin_58 : decode cX7_twin 58 = .ok (.getfield 29, 3) := by decide +kernel
theorem dX7_twin_61 : decode cX7_twin 61 = .ok (.iload_n 1, 1) := by decide +kernel
theorem dX7_twin_62 : decode cX7_twin 62 = .ok (.aload_n 0, 1) := by decide +kernel
theorem dX7_twin_63 : decode cX7_twin 63 = .ok (.getfield 29, 3) := by decide +kernel
theorem dX7_twin_66 : decode cX7_twin 66 = .ok (.iload_n 2, 1) := by decide +kernel
theorem dX7_twin_67 : decode cX7_twin 67 = .ok (.iaload, 1) := by decide +kernel
theorem dX7_twin_68 : decode cX7_twin 68 = .ok (.iastore, 1) := by decide +kernel
theorem dX7_twin_69 : decode cX7_twin 69 = .ok (.aload_n 0, 1) := by decide +kernel
theorem dX7_twin_70 : decode cX7_twin 70 = .ok (.getfield 32, 3) := by decide +kernel
theorem dX7_twin_73 : decode cX7_twin 73 = .ok (.iload_n 1, 1) := by decide +kernel
theorem dX7_twin_74 : decode cX7_twin 74 = .ok (.aload_n 0, 1) := by decide +kernel
theorem dX7_twin_75 : decode cX7_twin 75 = .ok (.getfield 32, 3) := by decide +kernel
theorem dX7_twin_78 : decode cX7_twin 78 = .ok (.iload_n 2, 1) := by decide +kernel
theorem dX7_twin_79 : decode cX7_twin 79 = .ok (.iaload, 1) := by decide +kernel
theorem dX7_twin_80 : decode cX7_twin 80 = .ok (.iastore, 1) := by decide +kernel
theorem dX7_twin_81 : decode cX7_twin 81 = .ok (.iconst 0, 1) := by decide +kernel
theorem dX7_twin_82 : decode cX7_twin 82 = .ok (.istore_n 3, 1) := by decide +kernel
theorem dX7_twin_83 : decode cX7_twin 83 = .ok (.iload_n 3, 1) := by decide +kernel
theorem dX7_twin_84 : decode cX7_twin 84 = .ok (.bipush 10, 2) := by decide +kernel
theorem dX7_twin_86 : decode cX7_twin 86 = .ok (.if_icmp .ge 25, 3) := by decide +kernel
theorem dX7_twin_89 : decode cX7_twin 89 = .ok (.aload_n 0, 1) := by decide +kernel
theorem dX7_twin_90 : decode cX7_twin 90 = .ok (.bipush 10, 2) := by decide +kernel
theorem dX7_twin_92 : decode cX7_twin 92 = .ok (.iload_n 2, 1) := by decide +kernel
theorem dX7_twin_93 : decode cX7_twin 93 = .ok (.imul, 1) := by decide +kernel
theorem dX7_twin_94 : decode cX7_twin 94 = .ok (.iload_n 3, 1) := by decide +kernel
theorem dX7_twin_95 : decode cX7_twin 95 = .ok (.iadd, 1) := by decide +kernel
theorem dX7_twin_96 : decode cX7_twin 96 = .ok (.bipush 10, 2) := by decide +kernel
theorem dX7_twin_98 : decode cX7_twin 98 = .ok (.iload_n 1, 1) := by decide +kernel
theorem dX7_twin_99 : decode cX7_twin 99 = .ok (.imul, 1) := by decide +kernel
theorem dX7_twin_100 : decode cX7_twin 100 = .ok (.iload_n 3, 1) := by decide +kernel
theorem dX7_twin_101 : decode cX7_twin 101 = .ok (.iadd, 1) := by decide +kernel
theorem dX7_twin_102 : decode cX7_twin 102 = .ok (.invokevirtual 116, 3) := by decide +kernel
theorem dX7_twin_105 : decode cX7_twin 105 = .ok (.iinc 3 1, 3) := by decide +kernel
theorem dX7_twin_108 : decode cX7_twin 108 = .ok (.goto (-25), 3) := by decide +kernel
theorem dX7_twin_111 : decode cX7_twin 111 = .ok (.aload_n 0, 1) := by decide +kernel
theorem dX7_twin_112 : decode cX7_twin 112 = .ok (.getfield 32, 3) := by decide +kernel
theorem dX7_twin_115 : decode cX7_twin 115 = .ok (.iload_n 1, 1) := by decide +kernel
theorem dX7_twin_116 : decode cX7_twin 116 = .ok (.iaload, 1) := by decide +kernel
theorem dX7_twin_117 : decode cX7_twin 117 = .ok (.ireturn, 1) := by decide +kernel
theorem dX7_move_0 : decode cX7_move 0 = .ok (.aload_n 0, 1) := by decide +kernel
theorem dX7_move_1 : decode cX7_move 1 = .ok (.getfield 35, 3) := by decide +kernel
theorem dX7_move_4 : decode cX7_move 4 = .ok (.iload_n 2, 1) := by decide +kernel
theorem dX7_move_5 : decode cX7_move 5 = .ok (.aload_n 0, 1) := by decide +kernel
theorem dX7_move_6 : decode cX7_move 6 = .ok (.getfield 35, 3) := by decide +kernel
theorem dX7_move_9 : decode cX7_move 9 = .ok (.iload_n 1, 1) := by decide +kernel
theorem dX7_move_10 : decode cX7_move 10 = .ok (.iaload, 1) := by decide +kernel
theorem dX7_move_11 : decode cX7_move 11 = .ok (.iastore, 1) := by decide +kernel
theorem dX7_move_12 : decode cX7_move 12 = .ok (.iconst 0, 1) := by decide +kernel
theorem dX7_move_13 : decode cX7_move 13 = .ok (.istore_n 3, 1) := by decide +kernel
theorem dX7_move_14 : decode cX7_move 14 = .ok (.iload_n 3, 1) := by decide +kernel
theorem dX7_move_15 : decode cX7_move 15 = .ok (.iconst 4, 1) := by decide +kernel
theorem dX7_move_16 : decode cX7_move 16 = .ok (.if_icmp .ge 49, 3) := by decide +kernel
theorem dX7_move_19 : decode cX7_move 19 = .ok (.aload_n 0, 1) := by decide +kernel
theorem dX7_move_20 : decode cX7_move 20 = .ok (.getfield 38, 3) := by decide +kernel
theorem dX7_move_23 : decode cX7_move 23 = .ok (.iconst 4, 1) := by decide +kernel
theorem dX7_move_24 : decode cX7_move 24 = .ok (.iload_n 2, 1) := by decide +kernel
theorem dX7_move_25 : decode cX7_move 25 = .ok (.imul, 1) := by decide +kernel
theorem dX7_move_26 : decode cX7_move 26 = .ok (.iload_n 3, 1) := by decide +kernel
theorem dX7_move_27 : decode cX7_move 27 = .ok (.iadd, 1) := by decide +kernel
theorem dX7_move_28 : decode cX7_move 28 = .ok (.aload_n 0, 1) := by decide +kernel
theorem dX7_move_29 : decode cX7_move 29 = .ok (.getfield 38, 3) := by decide +kernel
theorem dX7_move_32 : decode cX7_move 32 = .ok (.iconst 4, 1) := by decide +kernel
theorem dX7_move_33 : decode cX7_move 33 = .ok (.iload_n 1, 1) := by decide +kernel
theorem dX7_move_34 : decode cX7_move 34 = .ok (.imul, 1) := by decide +kernel
theorem dX7_move_35 : decode cX7_move 35 = .ok (.iload_n 3, 1) := by decide +kernel
theorem dX7_move_36 : decode cX7_move 36 = .ok (.iadd, 1) := by decide +kernel
theorem dX7_move_37 : decode cX7_move 37 = .ok (.iaload, 1) := by decide +kernel
theorem dX7_move_38 : decode cX7_move 38 = .ok (.iastore, 1) := by decide +kernel
theorem dX7_move_39 : decode cX7_move 39 = .ok (.aload_n 0, 1) := by decide +kernel
theorem dX7_move_40 : decode cX7_move 40 = .ok (.getfield 41, 3) := by decide +kernel
theorem dX7_move_43 : decode cX7_move 43 = .ok (.iconst 4, 1) := by decide +kernel
theorem dX7_move_44 : decode cX7_move 44 = .ok (.iload_n 2, 1) := by decide +kernel
theorem dX7_move_45 : decode cX7_move 45 = .ok (.imul, 1) := by decide +kernel
theorem dX7_move_46 : decode cX7_move 46 = .ok (.iload_n 3, 1) := by decide +kernel
theorem dX7_move_47 : decode cX7_move 47 = .ok (.iadd, 1) := by decide +kernel
theorem dX7_move_48 : decode cX7_move 48 = .ok (.aload_n 0, 1) := by decide +kernel
theorem dX7_move_49 : decode cX7_move 49 = .ok (.getfield 41, 3) := by decide +kernel
theorem dX7_move_52 : decode cX7_move 52 = .ok (.iconst 4, 1) := by decide +kernel
theorem dX7_move_53 : decode cX7_move 53 = .ok (.iload_n 1, 1) := by decide +kernel
theorem dX7_move_54 : decode cX7_move 54 = .ok (.imul, 1) := by decide +kernel
theorem dX7_move_55 : decode cX7_move 55 = .ok (.iload_n 3, 1) := by decide +kernel
theorem dX7_move_56 : decode cX7_move 56 = .ok (.iadd, 1) := by decide +kernel
theorem dX7_move_57 : decode cX7_move 57 = .ok (.laload, 1) := by decide +kernel
theorem dX7_move_58 : decode cX7_move 58 = .ok (.lastore, 1) := by decide +kernel
theorem dX7_move_59 : decode cX7_move 59 = .ok (.iinc 3 1, 3) := by decide +kernel
theorem dX7_move_62 : decode cX7_move 62 = .ok (.goto (-48), 3) := by decide +kernel
theorem dX7_move_65 : decode cX7_move 65 = .ok (.return_, 1) := by decide +kernel
theorem dX7_actOf_0 : decode cX7_actOf 0 = .ok (.aload_n 0, 1) := by decide +kernel
theorem dX7_actOf_1 : decode cX7_actOf 1 = .ok (.iconst 0, 1) := by decide +kernel
theorem dX7_actOf_2 : decode cX7_actOf 2 = .ok (.putfield 87, 3) := by decide +kernel
theorem dX7_actOf_5 : decode cX7_actOf 5 = .ok (.aload_n 0, 1) := by decide +kernel
theorem dX7_actOf_6 : decode cX7_actOf 6 = .ok (.iload_n 1, 1) := by decide +kernel
theorem dX7_actOf_7 : decode cX7_actOf 7 = .ok (.iload_n 2, 1) := by decide +kernel
theorem dX7_actOf_8 : decode cX7_actOf 8 = .ok (.invokevirtual 120, 3) := by decide +kernel
theorem dX7_actOf_11 : decode cX7_actOf 11 = .ok (.ifCond .ne 5, 3) := by decide +kernel
theorem dX7_actOf_14 : decode cX7_actOf 14 = .ok (.iconst (-1), 1) := by decide +kernel
theorem dX7_actOf_15 : decode cX7_actOf 15 = .ok (.ireturn, 1) := by decide +kernel
theorem dX7_actOf_16 : decode cX7_actOf 16 = .ok (.iload_n 3, 1) := by decide +kernel
theorem dX7_actOf_17 : decode cX7_actOf 17 = .ok (.ifCond .ne 19, 3) := by decide +kernel
theorem dX7_actOf_20 : decode cX7_actOf 20 = .ok (.aload_n 0, 1) := by decide +kernel
theorem dX7_actOf_21 : decode cX7_actOf 21 = .ok (.getfield 38, 3) := by decide +kernel
theorem dX7_actOf_24 : decode cX7_actOf 24 = .ok (.bipush 40, 2) := by decide +kernel
theorem dX7_actOf_26 : decode cX7_actOf 26 = .ok (.iload_n 1, 1) := by decide +kernel
theorem dX7_actOf_27 : decode cX7_actOf 27 = .ok (.imul, 1) := by decide +kernel
theorem dX7_actOf_28 : decode cX7_actOf 28 = .ok (.iconst 4, 1) := by decide +kernel
theorem dX7_actOf_29 : decode cX7_actOf 29 = .ok (.iload_n 2, 1) := by decide +kernel
theorem dX7_actOf_30 : decode cX7_actOf 30 = .ok (.imul, 1) := by decide +kernel
theorem dX7_actOf_31 : decode cX7_actOf 31 = .ok (.iadd, 1) := by decide +kernel
theorem dX7_actOf_32 : decode cX7_actOf 32 = .ok (.iaload, 1) := by decide +kernel
theorem dX7_actOf_33 : decode cX7_actOf 33 = .ok (.goto 24, 3) := by decide +kernel
theorem dX7_actOf_36 : decode cX7_actOf 36 = .ok (.iload_n 3, 1) := by decide +kernel
theorem dX7_actOf_37 : decode cX7_actOf 37 = .ok (.iconst 1, 1) := by decide +kernel
theorem dX7_actOf_38 : decode cX7_actOf 38 = .ok (.if_icmp .ne 17, 3) := by decide +kernel
theorem dX7_actOf_41 : decode cX7_actOf 41 = .ok (.aload_n 0, 1) := by decide +kernel
theorem dX7_actOf_42 : decode cX7_actOf 42 = .ok (.getfield 35, 3) := by decide +kernel
theorem dX7_actOf_45 : decode cX7_actOf 45 = .ok (.bipush 10, 2) := by decide +kernel
theorem dX7_actOf_47 : decode cX7_actOf 47 = .ok (.iload_n 1, 1) := by decide +kernel
theorem dX7_actOf_48 : decode cX7_actOf 48 = .ok (.imul, 1) := by decide +kernel
theorem dX7_actOf_49 : decode cX7_actOf 49 = .ok (.iload_n 2, 1) := by decide +kernel
theorem dX7_actOf_50 : decode cX7_actOf 50 = .ok (.iadd, 1) := by decide +kernel
theorem dX7_actOf_51 : decode cX7_actOf 51 = .ok (.iaload, 1) := by decide +kernel
theorem dX7_actOf_52 : decode cX7_actOf 52 = .ok (.goto 5, 3) := by decide +kernel
theorem dX7_actOf_55 : decode cX7_actOf 55 = .ok (.bipush (-2), 2) := by decide +kernel
theorem dX7_actOf_57 : decode cX7_actOf 57 = .ok (.ireturn, 1) := by decide +kernel
theorem dX7_number_0 : decode cX7_number 0 = .ok (.aload_n 0, 1) := by decide +kernel
theorem dX7_number_1 : decode cX7_number 1 = .ok (.iconst 0, 1) := by decide +kernel
theorem dX7_number_2 : decode cX7_number 2 = .ok (.putfield 87, 3) := by decide +kernel
theorem dX7_number_5 : decode cX7_number 5 = .ok (.aload_n 0, 1) := by decide +kernel
theorem dX7_number_6 : decode cX7_number 6 = .ok (.iload_n 1, 1) := by decide +kernel
theorem dX7_number_7 : decode cX7_number 7 = .ok (.iload_n 2, 1) := by decide +kernel
theorem dX7_number_8 : decode cX7_number 8 = .ok (.invokevirtual 120, 3) := by decide +kernel
theorem dX7_number_11 : decode cX7_number 11 = .ok (.ifCond .eq 44, 3) := by decide +kernel
theorem dX7_number_14 : decode cX7_number 14 = .ok (.iload_n 3, 1) := by decide +kernel
theorem dX7_number_15 : decode cX7_number 15 = .ok (.i2l, 1) := by decide +kernel
theorem dX7_number_16 : decode cX7_number 16 = .ok (.lconst 0, 1) := by decide +kernel
theorem dX7_number_17 : decode cX7_number 17 = .ok (.aload_n 0, 1) := by decide +kernel
theorem dX7_number_18 : decode cX7_number 18 = .ok (.getfield 35, 3) := by decide +kernel
theorem dX7_number_21 : decode cX7_number 21 = .ok (.bipush 10, 2) := by decide +kernel
theorem dX7_number_23 : decode cX7_number 23 = .ok (.iload_n 1, 1) := by decide +kernel
theorem dX7_number_24 : decode cX7_number 24 = .ok (.imul, 1) := by decide +kernel
theorem dX7_number_25 : decode cX7_number 25 = .ok (.iload_n 2, 1) := by decide +kernel
theorem dX7_number_26 : decode cX7_number 26 = .ok (.iadd, 1) := by decide +kernel
theorem dX7_number_27 : decode cX7_number 27 = .ok (.iaload, 1) := by decide +kernel
theorem dX7_number_28 : decode cX7_number 28 = .ok (.iconst 1, 1) := by decide +kernel
theorem dX7_number_29 : decode cX7_number 29 = .ok (.isub, 1) := by decide +kernel
theorem dX7_number_30 : decode cX7_number 30 = .ok (.i2l, 1) := by decide +kernel
theorem dX7_number_31 : decode cX7_number 31 = .ok (.invokestatic 93, 3) := by decide +kernel
theorem dX7_number_34 : decode cX7_number 34 = .ok (.ifCond .eq 21, 3) := by decide +kernel
theorem dX7_number_37 : decode cX7_number 37 = .ok (.aload_n 0, 1) := by decide +kernel
theorem dX7_number_38 : decode cX7_number 38 = .ok (.getfield 41, 3) := by decide +kernel
theorem dX7_number_41 : decode cX7_number 41 = .ok (.bipush 40, 2) := by decide +kernel
theorem dX7_number_43 : decode cX7_number 43 = .ok (.iload_n 1, 1) := by decide +kernel
theorem dX7_number_44 : decode cX7_number 44 = .ok (.imul, 1) := by decide +kernel
theorem dX7_number_45 : decode cX7_number 45 = .ok (.iconst 4, 1) := by decide +kernel
theorem dX7_number_46 : decode cX7_number 46 = .ok (.iload_n 2, 1) := by decide +kernel
theorem dX7_number_47 : decode cX7_number 47 = .ok (.imul, 1) := by decide +kernel
theorem dX7_number_48 : decode cX7_number 48 = .ok (.iadd, 1) := by decide +kernel
theorem dX7_number_49 : decode cX7_number 49 = .ok (.iload_n 3, 1) := by decide +kernel
theorem dX7_number_50 : decode cX7_number 50 = .ok (.iadd, 1) := by decide +kernel
theorem dX7_number_51 : decode cX7_number 51 = .ok (.laload, 1) := by decide +kernel
theorem dX7_number_52 : decode cX7_number 52 = .ok (.goto 4, 3) := by decide +kernel
theorem dX7_number_55 : decode cX7_number 55 = .ok (.lconst 0, 1) := by decide +kernel
theorem dX7_number_56 : decode cX7_number 56 = .ok (.lreturn, 1) := by decide +kernel
theorem dX7_pipe_0 : decode cX7_pipe 0 = .ok (.aload_n 0, 1) := by decide +kernel
theorem dX7_pipe_1 : decode cX7_pipe 1 = .ok (.iconst 0, 1) := by decide +kernel
theorem dX7_pipe_2 : decode cX7_pipe 2 = .ok (.putfield 87, 3) := by decide +kernel
theorem dX7_pipe_5 : decode cX7_pipe 5 = .ok (.iload_n 1, 1) := by decide +kernel
theorem dX7_pipe_6 : decode cX7_pipe 6 = .ok (.invokestatic 105, 3) := by decide +kernel
theorem dX7_pipe_9 : decode cX7_pipe 9 = .ok (.ifCond .ne 7, 3) := by decide +kernel
theorem dX7_pipe_12 : decode cX7_pipe 12 = .ok (.iconst (-1), 1) := by decide +kernel
theorem dX7_pipe_13 : decode cX7_pipe 13 = .ok (.goto 32, 3) := by decide +kernel
theorem dX7_pipe_16 : decode cX7_pipe 16 = .ok (.iload_n 2, 1) := by decide +kernel
theorem dX7_pipe_17 : decode cX7_pipe 17 = .ok (.ifCond .ne 12, 3) := by decide +kernel
theorem dX7_pipe_20 : decode cX7_pipe 20 = .ok (.aload_n 0, 1) := by decide +kernel
theorem dX7_pipe_21 : decode cX7_pipe 21 = .ok (.getfield 32, 3) := by decide +kernel
theorem dX7_pipe_24 : decode cX7_pipe 24 = .ok (.iload_n 1, 1) := by decide +kernel
theorem dX7_pipe_25 : decode cX7_pipe 25 = .ok (.iaload, 1) := by decide +kernel
theorem dX7_pipe_26 : decode cX7_pipe 26 = .ok (.goto 19, 3) := by decide +kernel
theorem dX7_pipe_29 : decode cX7_pipe 29 = .ok (.iload_n 2, 1) := by decide +kernel
theorem dX7_pipe_30 : decode cX7_pipe 30 = .ok (.iconst 1, 1) := by decide +kernel
theorem dX7_pipe_31 : decode cX7_pipe 31 = .ok (.if_icmp .ne 12, 3) := by decide +kernel
theorem dX7_pipe_34 : decode cX7_pipe 34 = .ok (.aload_n 0, 1) := by decide +kernel
theorem dX7_pipe_35 : decode cX7_pipe 35 = .ok (.getfield 20, 3) := by decide +kernel
theorem dX7_pipe_38 : decode cX7_pipe 38 = .ok (.iload_n 1, 1) := by decide +kernel
theorem dX7_pipe_39 : decode cX7_pipe 39 = .ok (.iaload, 1) := by decide +kernel
theorem dX7_pipe_40 : decode cX7_pipe 40 = .ok (.goto 5, 3) := by decide +kernel
theorem dX7_pipe_43 : decode cX7_pipe 43 = .ok (.bipush (-2), 2) := by decide +kernel
theorem dX7_pipe_45 : decode cX7_pipe 45 = .ok (.ireturn, 1) := by decide +kernel
theorem dX7_newElement_0 : decode cX7_newElement 0 = .ok (.aload_n 0, 1) := by decide +kernel
theorem dX7_newElement_1 : decode cX7_newElement 1 = .ok (.getfield 124, 3) := by decide +kernel
theorem dX7_newElement_4 : decode cX7_newElement 4 = .ok (.istore 4, 2) := by decide +kernel
theorem dX7_newElement_6 : decode cX7_newElement 6 = .ok (.aload_n 0, 1) := by decide +kernel
theorem dX7_newElement_7 : decode cX7_newElement 7 = .ok (.getfield 44, 3) := by decide +kernel
theorem dX7_newElement_10 : decode cX7_newElement 10 = .ok (.iload 4, 2) := by decide +kernel
theorem dX7_newElement_12 : decode cX7_newElement 12 = .ok (.iconst 0, 1) := by decide +kernel
theorem dX7_newElement_13 : decode cX7_newElement 13 = .ok (.iastore, 1) := by decide +kernel
theorem dX7_newElement_14 : decode cX7_newElement 14 = .ok (.aload_n 0, 1) := by decide +kernel
theorem dX7_newElement_15 : decode cX7_newElement 15 = .ok (.getfield 62, 3) := by decide +kernel
theorem dX7_newElement_18 : decode cX7_newElement 18 = .ok (.iload 4, 2) := by decide +kernel
theorem dX7_newElement_20 : decode cX7_newElement 20 = .ok (.iconst 0, 1) := by decide +kernel
theorem dX7_newElement_21 : decode cX7_newElement 21 = .ok (.bastore, 1) := by decide +kernel
theorem dX7_newElement_22 : decode cX7_newElement 22 = .ok (.aload_n 0, 1) := by decide +kernel
theorem dX7_newElement_23 : decode cX7_newElement 23 = .ok (.getfield 50, 3) := by decide +kernel
theorem dX7_newElement_26 : decode cX7_newElement 26 = .ok (.iload 4, 2) := by decide +kernel
theorem dX7_newElement_28 : decode cX7_newElement 28 = .ok (.iload_n 1, 1) := by decide +kernel
theorem dX7_newElement_29 : decode cX7_newElement 29 = .ok (.iastore, 1) := by decide +kernel
theorem dX7_newElement_30 : decode cX7_newElement 30 = .ok (.aload_n 0, 1) := by decide +kernel
theorem dX7_newElement_31 : decode cX7_newElement 31 = .ok (.getfield 53, 3) := by decide +kernel
theorem dX7_newElement_34 : decode cX7_newElement 34 = .ok (.iload 4, 2) := by decide +kernel
theorem dX7_newElement_36 : decode cX7_newElement 36 = .ok (.iload_n 2, 1) := by decide +kernel
theorem dX7_newElement_37 : decode cX7_newElement 37 = .ok (.iastore, 1) := by decide +kernel
theorem dX7_newElement_38 : decode cX7_newElement 38 = .ok (.aload_n 0, 1) := by decide +kernel
theorem dX7_newElement_39 : decode cX7_newElement 39 = .ok (.getfield 56, 3) := by decide +kernel
theorem dX7_newElement_42 : decode cX7_newElement 42 = .ok (.iload 4, 2) := by decide +kernel
theorem dX7_newElement_44 : decode cX7_newElement 44 = .ok (.iload_n 3, 1) := by decide +kernel
theorem dX7_newElement_45 : decode cX7_newElement 45 = .ok (.iastore, 1) := by decide +kernel
theorem dX7_newElement_46 : decode cX7_newElement 46 = .ok (.aload_n 0, 1) := by decide +kernel
theorem dX7_newElement_47 : decode cX7_newElement 47 = .ok (.dup, 1) := by decide +kernel
theorem dX7_newElement_48 : decode cX7_newElement 48 = .ok (.getfield 124, 3) := by decide +kernel
theorem dX7_newElement_51 : decode cX7_newElement 51 = .ok (.iconst 1, 1) := by decide +kernel
theorem dX7_newElement_52 : decode cX7_newElement 52 = .ok (.iadd, 1) := by decide +kernel
theorem dX7_newElement_53 : decode cX7_newElement 53 = .ok (.putfield 124, 3) := by decide +kernel
theorem dX7_newElement_56 : decode cX7_newElement 56 = .ok (.iload 4, 2) := by decide +kernel
theorem dX7_newElement_58 : decode cX7_newElement 58 = .ok (.ireturn, 1) := by decide +kernel
theorem dX7_worked_0 : decode cX7_worked 0 = .ok (.aload_n 0, 1) := by decide +kernel
theorem dX7_worked_1 : decode cX7_worked 1 = .ok (.iconst (-1), 1) := by decide +kernel
theorem dX7_worked_2 : decode cX7_worked 2 = .ok (.iconst (-1), 1) := by decide +kernel
theorem dX7_worked_3 : decode cX7_worked 3 = .ok (.iconst (-1), 1) := by decide +kernel
theorem dX7_worked_4 : decode cX7_worked 4 = .ok (.invokevirtual 127, 3) := by decide +kernel
theorem dX7_worked_7 : decode cX7_worked 7 = .ok (.istore_n 3, 1) := by decide +kernel
theorem dX7_worked_8 : decode cX7_worked 8 = .ok (.aload_n 0, 1) := by decide +kernel
theorem dX7_worked_9 : decode cX7_worked 9 = .ok (.getfield 44, 3) := by decide +kernel
theorem dX7_worked_12 : decode cX7_worked 12 = .ok (.iload_n 3, 1) := by decide +kernel
theorem dX7_worked_13 : decode cX7_worked 13 = .ok (.iconst 1, 1) := by decide +kernel
theorem dX7_worked_14 : decode cX7_worked 14 = .ok (.iastore, 1) := by decide +kernel
theorem dX7_worked_15 : decode cX7_worked 15 = .ok (.aload_n 0, 1) := by decide +kernel
theorem dX7_worked_16 : decode cX7_worked 16 = .ok (.getfield 47, 3) := by decide +kernel
theorem dX7_worked_19 : decode cX7_worked 19 = .ok (.iload_n 3, 1) := by decide +kernel
theorem dX7_worked_20 : decode cX7_worked 20 = .ok (.lload_n 1, 1) := by decide +kernel
theorem dX7_worked_21 : decode cX7_worked 21 = .ok (.lastore, 1) := by decide +kernel
theorem dX7_worked_22 : decode cX7_worked 22 = .ok (.iload_n 3, 1) := by decide +kernel
theorem dX7_worked_23 : decode cX7_worked 23 = .ok (.ireturn, 1) := by decide +kernel
theorem dX7_want_0 : decode cX7_want 0 = .ok (.iconst 1, 1) := by decide +kernel
theorem dX7_want_1 : decode cX7_want 1 = .ok (.istore_n 2, 1) := by decide +kernel
theorem dX7_want_2 : decode cX7_want 2 = .ok (.aload_n 0, 1) := by decide +kernel
theorem dX7_want_3 : decode cX7_want 3 = .ok (.getfield 59, 3) := by decide +kernel
