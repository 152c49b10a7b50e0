theorem dX4_useUp_0 : decode cX4_useUp 0 = .ok (.iconst 0, 1) := by decide +kernel
theorem dX4_useUp_1 : decode cX4_useUp 1 = .ok (.istore_n 2, 1) := by decide +kernel
theorem dX4_useUp_2 : decode cX4_useUp 2 = .ok (.iload_n 2, 1) := by decide +kernel
theorem dX4_useUp_3 : decode cX4_useUp 3 = .ok (.sipush 1000, 3) := by decide +kernel
theorem dX4_useUp_6 : decode cX4_useUp 6 = .ok (.if_icmp .ge 28, 3) := by decide +kernel
theorem dX4_useUp_9 : decode cX4_useUp 9 = .ok (.aload_n 0, 1) := by decide +kernel
theorem dX4_useUp_10 : decode cX4_useUp 10 = .ok (.iload_n 1, 1) := by decide +kernel
theorem dX4_useUp_11 : decode cX4_useUp 11 = .ok (.invokestatic 11, 3) := by decide +kernel
theorem dX4_useUp_14 : decode cX4_useUp 14 = .ok (.istore_n 3, 1) := by decide +kernel
theorem dX4_useUp_15 : decode cX4_useUp 15 = .ok (.iload_n 3, 1) := by decide +kernel
theorem dX4_useUp_16 : decode cX4_useUp 16 = .ok (.iconst (-1), 1) := by decide +kernel
theorem dX4_useUp_17 : decode cX4_useUp 17 = .ok (.if_icmp .ne 5, 3) := by decide +kernel
theorem dX4_useUp_20 : decode cX4_useUp 20 = .ok (.iload_n 2, 1) := by decide +kernel
theorem dX4_useUp_21 : decode cX4_useUp 21 = .ok (.ireturn, 1) := by decide +kernel
theorem dX4_useUp_22 : decode cX4_useUp 22 = .ok (.aload_n 0, 1) := by decide +kernel
theorem dX4_useUp_23 : decode cX4_useUp 23 = .ok (.iload_n 3, 1) := by decide +kernel
theorem dX4_useUp_24 : decode cX4_useUp 24 = .ok (.iload_n 1, 1) := by decide +kernel
theorem dX4_useUp_25 : decode cX4_useUp 25 = .ok (.invokestatic 15, 3) := by decide +kernel
theorem dX4_useUp_28 : decode cX4_useUp 28 = .ok (.iinc 2 1, 3) := by decide +kernel
theorem dX4_useUp_31 : decode cX4_useUp 31 = .ok (.goto (-29), 3) := by decide +kernel
theorem dX4_useUp_34 : decode cX4_useUp 34 = .ok (.sipush 1000, 3) := by decide +kernel
theorem dX4_useUp_37 : decode cX4_useUp 37 = .ok (.ireturn, 1) := by decide +kernel
theorem dX4_fit_0 : decode cX4_fit 0 = .ok (.iload_n 2, 1) := by decide +kernel
theorem dX4_fit_1 : decode cX4_fit 1 = .ok (.bipush 7, 2) := by decide +kernel
theorem dX4_fit_3 : decode cX4_fit 3 = .ok (.if_icmp .ne 29, 3) := by decide +kernel
theorem dX4_fit_6 : decode cX4_fit 6 = .ok (.aload_n 0, 1) := by decide +kernel
theorem dX4_fit_7 : decode cX4_fit 7 = .ok (.iload_n 1, 1) := by decide +kernel
theorem dX4_fit_8 : decode cX4_fit 8 = .ok (.invokevirtual 19, 3) := by decide +kernel
theorem dX4_fit_11 : decode cX4_fit 11 = .ok (.ifCond .eq 19, 3) := by decide +kernel
theorem dX4_fit_14 : decode cX4_fit 14 = .ok (.aload_n 0, 1) := by decide +kernel
theorem dX4_fit_15 : decode cX4_fit 15 = .ok (.getfield 25, 3) := by decide +kernel
theorem dX4_fit_18 : decode cX4_fit 18 = .ok (.iload_n 1, 1) := by decide +kernel
theorem dX4_fit_19 : decode cX4_fit 19 = .ok (.aaload, 1) := by decide +kernel
theorem dX4_fit_20 : decode cX4_fit 20 = .ok (.invokevirtual 29, 3) := by decide +kernel
theorem dX4_fit_23 : decode cX4_fit 23 = .ok (.ifCond .eq 7, 3) := by decide +kernel
theorem dX4_fit_26 : decode cX4_fit 26 = .ok (.iconst 0, 1) := by decide +kernel
theorem dX4_fit_27 : decode cX4_fit 27 = .ok (.goto 4, 3) := by decide +kernel
theorem dX4_fit_30 : decode cX4_fit 30 = .ok (.iconst 1, 1) := by decide +kernel
theorem dX4_fit_31 : decode cX4_fit 31 = .ok (.ireturn, 1) := by decide +kernel
theorem dX4_fit_32 : decode cX4_fit 32 = .ok (.aload_n 0, 1) := by decide +kernel
theorem dX4_fit_33 : decode cX4_fit 33 = .ok (.iload_n 1, 1) := by decide +kernel
theorem dX4_fit_34 : decode cX4_fit 34 = .ok (.invokevirtual 19, 3) := by decide +kernel
theorem dX4_fit_37 : decode cX4_fit 37 = .ok (.ifCond .eq 13, 3) := by decide +kernel
theorem dX4_fit_40 : decode cX4_fit 40 = .ok (.aload_n 0, 1) := by decide +kernel
theorem dX4_fit_41 : decode cX4_fit 41 = .ok (.iload_n 1, 1) := by decide +kernel
theorem dX4_fit_42 : decode cX4_fit 42 = .ok (.iconst 1, 1) := by decide +kernel
theorem dX4_fit_43 : decode cX4_fit 43 = .ok (.iadd, 1) := by decide +kernel
theorem dX4_fit_44 : decode cX4_fit 44 = .ok (.invokevirtual 19, 3) := by decide +kernel
theorem dX4_fit_47 : decode cX4_fit 47 = .ok (.ifCond .ne 5, 3) := by decide +kernel
theorem dX4_fit_50 : decode cX4_fit 50 = .ok (.iconst 1, 1) := by decide +kernel
theorem dX4_fit_51 : decode cX4_fit 51 = .ok (.ireturn, 1) := by decide +kernel
theorem dX4_fit_52 : decode cX4_fit 52 = .ok (.aload_n 0, 1) := by decide +kernel
theorem dX4_fit_53 : decode cX4_fit 53 = .ok (.getfield 25, 3) := by decide +kernel
theorem dX4_fit_56 : decode cX4_fit 56 = .ok (.iload_n 1, 1) := by decide +kernel
theorem dX4_fit_57 : decode cX4_fit 57 = .ok (.aaload, 1) := by decide +kernel
theorem dX4_fit_58 : decode cX4_fit 58 = .ok (.astore_n 3, 1) := by decide +kernel
theorem dX4_fit_59 : decode cX4_fit 59 = .ok (.aload_n 0, 1) := by decide +kernel
theorem dX4_fit_60 : decode cX4_fit 60 = .ok (.getfield 25, 3) := by decide +kernel
theorem dX4_fit_63 : decode cX4_fit 63 = .ok (.iload_n 1, 1) := by decide +kernel
theorem dX4_fit_64 : decode cX4_fit 64 = .ok (.iconst 1, 1) := by decide +kernel
theorem dX4_fit_65 : decode cX4_fit 65 = .ok (.iadd, 1) := by decide +kernel
theorem dX4_fit_66 : decode cX4_fit 66 = .ok (.aaload, 1) := by decide +kernel
theorem dX4_fit_67 : decode cX4_fit 67 = .ok (.astore 4, 2) := by decide +kernel
theorem dX4_fit_69 : decode cX4_fit 69 = .ok (.aload_n 3, 1) := by decide +kernel
theorem dX4_fit_70 : decode cX4_fit 70 = .ok (.aload 4, 2) := by decide +kernel
theorem dX4_fit_72 : decode cX4_fit 72 = .ok (.iload_n 2, 1) := by decide +kernel
theorem dX4_fit_73 : decode cX4_fit 73 = .ok (.invokestatic 35, 3) := by decide +kernel
theorem dX4_fit_76 : decode cX4_fit 76 = .ok (.ifCond .ne 5, 3) := by decide +kernel
theorem dX4_fit_79 : decode cX4_fit 79 = .ok (.iconst 1, 1) := by decide +kernel
theorem dX4_fit_80 : decode cX4_fit 80 = .ok (.ireturn, 1) := by decide +kernel
theorem dX4_fit_81 : decode cX4_fit 81 = .ok (.iload_n 2, 1) := by decide +kernel
theorem dX4_fit_82 : decode cX4_fit 82 = .ok (.iconst 5, 1) := by decide +kernel
theorem dX4_fit_83 : decode cX4_fit 83 = .ok (.if_icmp .ne 17, 3) := by decide +kernel
theorem dX4_fit_86 : decode cX4_fit 86 = .ok (.aload_n 0, 1) := by decide +kernel
theorem dX4_fit_87 : decode cX4_fit 87 = .ok (.iload_n 1, 1) := by decide +kernel
theorem dX4_fit_88 : decode cX4_fit 88 = .ok (.invokevirtual 39, 3) := by decide +kernel
theorem dX4_fit_91 : decode cX4_fit 91 = .ok (.ifCond .eq 7, 3) := by decide +kernel
theorem dX4_fit_94 : decode cX4_fit 94 = .ok (.iconst 0, 1) := by decide +kernel
theorem dX4_fit_95 : decode cX4_fit 95 = .ok (.goto 4, 3) := by decide +kernel
theorem dX4_fit_98 : decode cX4_fit 98 = .ok (.iconst 3, 1) := by decide +kernel
theorem dX4_fit_99 : decode cX4_fit 99 = .ok (.ireturn, 1) := by decide +kernel
theorem dX4_fit_100 : decode cX4_fit 100 = .ok (.iload_n 2, 1) := by decide +kernel
theorem dX4_fit_101 : decode cX4_fit 101 = .ok (.ifCond .eq 8, 3) := by decide +kernel
theorem dX4_fit_104 : decode cX4_fit 104 = .ok (.iload_n 2, 1) := by decide +kernel
theorem dX4_fit_105 : decode cX4_fit 105 = .ok (.iconst 1, 1) := by decide +kernel
theorem dX4_fit_106 : decode cX4_fit 106 = .ok (.if_icmp .ne 23, 3) := by decide +kernel
theorem dX4_fit_109 : decode cX4_fit 109 = .ok (.aload_n 3, 1) := by decide +kernel
theorem dX4_fit_110 : decode cX4_fit 110 = .ok (.getfield 42, 3) := by decide +kernel
theorem dX4_fit_113 : decode cX4_fit 113 = .ok (.aload 4, 2) := by decide +kernel
theorem dX4_fit_115 : decode cX4_fit 115 = .ok (.getfield 42, 3) := by decide +kernel
theorem dX4_fit_118 : decode cX4_fit 118 = .ok (.iadd, 1) := by decide +kernel
theorem dX4_fit_119 : decode cX4_fit 119 = .ok (.iconst 4, 1) := by decide +kernel
theorem dX4_fit_120 : decode cX4_fit 120 = .ok (.if_icmp .gt 7, 3) := by decide +kernel
theorem dX4_fit_123 : decode cX4_fit 123 = .ok (.iconst 0, 1) := by decide +kernel
theorem dX4_fit_124 : decode cX4_fit 124 = .ok (.goto 4, 3) := by decide +kernel
theorem dX4_fit_127 : decode cX4_fit 127 = .ok (.iconst 2, 1) := by decide +kernel
theorem dX4_fit_128 : decode cX4_fit 128 = .ok (.ireturn, 1) := by decide +kernel
theorem dX4_fit_129 : decode cX4_fit 129 = .ok (.iconst 0, 1) := by decide +kernel
theorem dX4_fit_130 : decode cX4_fit 130 = .ok (.ireturn, 1) := by decide +kernel
theorem dX4_areMeant_0 : decode cX4_areMeant 0 = .ok (.iload_n 2, 1) := by decide +kernel
theorem dX4_areMeant_1 : decode cX4_areMeant 1 = .ok (.tableswitch 210 0 6 #[43, 63, 83, 107, 131, 162, 186], 43) := by decide +kernel
theorem dX4_areMeant_44 : decode cX4_areMeant 44 = .ok (.aload_n 0, 1) := by decide +kernel
theorem dX4_areMeant_45 : decode cX4_areMeant 45 = .ok (.invokevirtual 46, 3) := by decide +kernel
theorem dX4_areMeant_48 : decode cX4_areMeant 48 = .ok (.ifCond .eq 14, 3) := by decide +kernel
theorem dX4_areMeant_51 : decode cX4_areMeant 51 = .ok (.aload_n 1, 1) := by decide +kernel
theorem dX4_areMeant_52 : decode cX4_areMeant 52 = .ok (.invokevirtual 46, 3) := by decide +kernel
theorem dX4_areMeant_55 : decode cX4_areMeant 55 = .ok (.ifCond .eq 7, 3) := by decide +kernel
theorem dX4_areMeant_58 : decode cX4_areMeant 58 = .ok (.iconst 1, 1) := by decide +kernel
theorem dX4_areMeant_59 : decode cX4_areMeant 59 = .ok (.goto 4, 3) := by decide +kernel
theorem dX4_areMeant_62 : decode cX4_areMeant 62 = .ok (.iconst 0, 1) := by decide +kernel
theorem dX4_areMeant_63 : decode cX4_areMeant 63 = .ok (.ireturn, 1) := by decide +kernel
theorem dX4_areMeant_64 : decode cX4_areMeant 64 = .ok (.aload_n 0, 1) := by decide +kernel
theorem dX4_areMeant_65 : decode cX4_areMeant 65 = .ok (.invokevirtual 49, 3) := by decide +kernel
theorem dX4_areMeant_68 : decode cX4_areMeant 68 = .ok (.ifCond .eq 14, 3) := by decide +kernel
theorem dX4_areMeant_71 : decode cX4_areMeant 71 = .ok (.aload_n 1, 1) := by decide +kernel
theorem dX4_areMeant_72 : decode cX4_areMeant 72 = .ok (.invokevirtual 49, 3) := by decide +kernel
theorem dX4_areMeant_75 : decode cX4_areMeant 75 = .ok (.ifCond .eq 7, 3) := by decide +kernel
theorem dX4_areMeant_78 : decode cX4_areMeant 78 = .ok (.iconst 1, 1) := by decide +kernel
theorem dX4_areMeant_79 : decode cX4_areMeant 79 = .ok (.goto 4, 3) := by decide +kernel
theorem dX4_areMeant_82 : decode cX4_areMeant 82 = .ok (.iconst 0, 1) := by decide +kernel
theorem dX4_areMeant_83 : decode cX4_areMeant 83 = .ok (.ireturn, 1) := by decide +kernel
theorem dX4_areMeant_84 : decode cX4_areMeant 84 = .ok (.aload_n 0, 1) := by decide +kernel
theorem dX4_areMeant_85 : decode cX4_areMeant 85 = .ok (.bipush 7, 2) := by decide +kernel
theorem dX4_areMeant_87 : decode cX4_areMeant 87 = .ok (.invokevirtual 52, 3) := by decide +kernel
theorem dX4_areMeant_90 : decode cX4_areMeant 90 = .ok (.ifCond .eq 16, 3) := by decide +kernel
theorem dX4_areMeant_93 : decode cX4_areMeant 93 = .ok (.aload_n 1, 1) := by decide +kernel
theorem dX4_areMeant_94 : decode cX4_areMeant 94 = .ok (.bipush 7, 2) := by decide +kernel
theorem dX4_areMeant_96 : decode cX4_areMeant 96 = .ok (.invokevirtual 52, 3) := by decide +kernel
theorem dX4_areMeant_99 : decode cX4_areMeant 99 = .ok (.ifCond .eq 7, 3) := by decide +kernel
theorem dX4_areMeant_102 : decode cX4_areMeant 102 = .ok (.iconst 1, 1) := by decide +kernel
theorem dX4_areMeant_103 : decode cX4_areMeant 103 = .ok (.goto 4, 3) := by decide +kernel
theorem dX4_areMeant_106 : decode cX4_areMeant 106 = .ok (.iconst 0, 1) := by decide +kernel
theorem dX4_areMeant_107 : decode cX4_areMeant 107 = .ok (.ireturn, 1) := by decide +kernel
theorem dX4_areMeant_108 : decode cX4_areMeant 108 = .ok (.aload_n 0, 1) := by decide +kernel
theorem dX4_areMeant_109 : decode cX4_areMeant 109 = .ok (.bipush 8, 2) := by decide +kernel
theorem dX4_areMeant_111 : decode cX4_areMeant 111 = .ok (.invokevirtual 52, 3) := by decide +kernel
theorem dX4_areMeant_114 : decode cX4_areMeant 114 = .ok (.ifCond .eq 16, 3) := by decide +kernel
theorem dX4_areMeant_117 : decode cX4_areMeant 117 = .ok (.aload_n 1, 1) := by decide +kernel
theorem dX4_areMeant_118 : decode cX4_areMeant 118 = .ok (.bipush 8, 2) := by decide +kernel
theorem dX4_areMeant_120 : decode cX4_areMeant 120 = .ok (.invokevirtual 52, 3) := by decide +kernel
theorem dX4_areMeant_123 : decode cX4_areMeant 123 = .ok (.ifCond .eq 7, 3) := by decide +kernel
theorem dX4_areMeant_126 : decode cX4_areMeant 126 = .ok (.iconst 1, 1) := by decide +kernel
theorem dX4_areMeant_127 : decode cX4_areMeant 127 = .ok (.goto 4, 3) := by decide +kernel
theorem dX4_areMeant_130 : decode cX4_areMeant 130 = .ok (.iconst 0, 1) := by decide +kernel
theorem dX4_areMeant_131 : decode cX4_areMeant 131 = .ok (.ireturn, 1) := by decide +kernel
theorem dX4_areMeant_132 : decode cX4_areMeant 132 = .ok (.aload_n 0, 1) := by decide +kernel
theorem dX4_areMeant_133 : decode cX4_areMeant 133 = .ok (.invokevirtual 46, 3) := by decide +kernel
theorem dX4_areMeant_136 : decode cX4_areMeant 136 = .ok (.ifCond .eq 25, 3) := by decide +kernel
theorem dX4_areMeant_139 : decode cX4_areMeant 139 = .ok (.aload_n 1, 1) := by decide +kernel
theorem dX4_areMeant_140 : decode cX4_areMeant 140 = .ok (.bipush 7, 2) := by decide +kernel
theorem dX4_areMeant_142 : decode cX4_areMeant 142 = .ok (.invokevirtual 52, 3) := by decide +kernel
theorem dX4_areMeant_145 : decode cX4_areMeant 145 = .ok (.ifCond .ne 12, 3) := by decide +kernel
theorem dX4_areMeant_148 : decode cX4_areMeant 148 = .ok (.aload_n 1, 1) := by decide +kernel
theorem dX4_areMeant_149 : decode cX4_areMeant 149 = .ok (.bipush 8, 2) := by decide +kernel
theorem dX4_areMeant_151 : decode cX4_areMeant 151 = .ok (.invokevirtual 52, 3) := by decide +kernel
theorem dX4_areMeant_154 : decode cX4_areMeant 154 = .ok (.ifCond .eq 7, 3) := by decide +kernel
theorem dX4_areMeant_157 : decode cX4_areMeant 157 = .ok (.iconst 1, 1) := by decide +kernel
theorem dX4_areMeant_158 : decode cX4_areMeant 158 = .ok (.goto 4, 3) := by decide +kernel
theorem dX4_areMeant_161 : decode cX4_areMeant 161 = .ok (.iconst 0, 1) := by decide +kernel
theorem dX4_areMeant_162 : decode cX4_areMeant 162 = .ok (.ireturn, 1) := by decide +kernel
theorem dX4_areMeant_163 : decode cX4_areMeant 163 = .ok (.aload_n 0, 1) := by decide +kernel
theorem dX4_areMeant_164 : decode cX4_areMeant 164 = .ok (.bipush 11, 2) := by decide +kernel
theorem dX4_areMeant_166 : decode cX4_areMeant 166 = .ok (.invokevirtual 52, 3) := by decide +kernel
theorem dX4_areMeant_169 : decode cX4_areMeant 169 = .ok (.ifCond .eq 16, 3) := by decide +kernel
theorem dX4_areMeant_172 : decode cX4_areMeant 172 = .ok (.aload_n 1, 1) := by decide +kernel
theorem dX4_areMeant_173 : decode cX4_areMeant 173 = .ok (.bipush 11, 2) := by decide +kernel
theorem dX4_areMeant_175 : decode cX4_areMeant 175 = .ok (.invokevirtual 52, 3) := by decide +kernel
theorem dX4_areMeant_178 : decode cX4_areMeant 178 = .ok (.ifCond .eq 7, 3) := by decide +kernel
theorem dX4_areMeant_181 : decode cX4_areMeant 181 = .ok (.iconst 1, 1) := by decide +kernel
theorem dX4_areMeant_182 : decode cX4_areMeant 182 = .ok (.goto 4, 3) := by decide +kernel
theorem dX4_areMeant_185 : decode cX4_areMeant 185 = .ok (.iconst 0, 1) := by decide +kernel
theorem dX4_areMeant_186 : decode cX4_areMeant 186 = .ok (.ireturn, 1) := by decide +kernel
theorem dX4_areMeant_187 : decode cX4_areMeant 187 = .ok (.aload_n 0, 1) := by decide +kernel
theorem dX4_areMeant_188 : decode cX4_areMeant 188 = .ok (.bipush 7, 2) := by decide +kernel
theorem dX4_areMeant_190 : decode cX4_areMeant 190 = .ok (.invokevirtual 52, 3) := by decide +kernel
theorem dX4_areMeant_193 : decode cX4_areMeant 193 = .ok (.ifCond .eq 16, 3) := by decide +kernel
theorem dX4_areMeant_196 : decode cX4_areMeant 196 = .ok (.aload_n 1, 1) := by decide +kernel
theorem dX4_areMeant_197 : decode cX4_areMeant 197 = .ok (.bipush 8, 2) := by decide +kernel
theorem dX4_areMeant_199 : decode cX4_areMeant 199 = .ok (.invokevirtual 52, 3) := by decide +kernel
theorem dX4_areMeant_202 : decode cX4_areMeant 202 = .ok (.ifCond .eq 7, 3) := by decide +kernel
theorem dX4_areMeant_205 : decode cX4_areMeant 205 = .ok (.iconst 1, 1) := by decide +kernel
theorem dX4_areMeant_206 : decode cX4_areMeant 206 = .ok (.goto 4, 3) := by decide +kernel
theorem dX4_areMeant_209 : decode cX4_areMeant 209 = .ok (.iconst 0, 1) := by decide +kernel
theorem dX4_areMeant_210 : decode cX4_areMeant 210 = .ok (.ireturn, 1) := by decide +kernel
theorem dX4_areMeant_211 : decode cX4_areMeant 211 = .ok (.iconst 0, 1) := by decide +kernel
theorem dX4_areMeant_212 : decode cX4_areMeant 212 = .ok (.ireturn, 1) := by decide +kernel
theorem dX4_firstFit_0 : decode cX4_firstFit 0 = .ok (.iconst 0, 1) := by decide +kernel
theorem dX4_firstFit_1 : decode cX4_firstFit 1 = .ok (.istore_n 2, 1) := by decide +kernel
theorem dX4_firstFit_2 : decode cX4_firstFit 2 = .ok (.iload_n 2, 1) := by decide +kernel
theorem dX4_firstFit_3 : decode cX4_firstFit 3 = .ok (.aload_n 0, 1) := by decide +kernel
theorem dX4_firstFit_4 : decode cX4_firstFit 4 = .ok (.getfield 55, 3) := by decide +kernel
theorem dX4_firstFit_7 : decode cX4_firstFit 7 = .ok (.if_icmp .ge 20, 3) := by decide +kernel
theorem dX4_firstFit_10 : decode cX4_firstFit 10 = .ok (.aload_n 0, 1) := by decide +kernel
theorem dX4_firstFit_11 : decode cX4_firstFit 11 = .ok (.iload_n 2, 1) := by decide +kernel
theorem dX4_firstFit_12 : decode cX4_firstFit 12 = .ok (.iload_n 1, 1) := by decide +kernel
theorem dX4_firstFit_13 : decode cX4_firstFit 13 = .ok (.invokestatic 58, 3) := by decide +kernel
theorem dX4_firstFit_16 : decode cX4_firstFit 16 = .ok (.ifCond .ne 5, 3) := by decide +kernel
theorem dX4_firstFit_19 : decode cX4_firstFit 19 = .ok (.iload_n 2, 1) := by decide +kernel
theorem dX4_firstFit_20 : decode cX4_firstFit 20 = .ok (.ireturn, 1) := by decide +kernel
theorem dX4_firstFit_21 : decode cX4_firstFit 21 = .ok (.iinc 2 1, 3) := by decide +kernel
theorem dX4_firstFit_24 : decode cX4_firstFit 24 = .ok (.goto (-22), 3) := by decide +kernel
theorem dX4_firstFit_27 : decode cX4_firstFit 27 = .ok (.iconst (-1), 1) := by decide +kernel
theorem dX4_firstFit_28 : decode cX4_firstFit 28 = .ok (.ireturn, 1) := by decide +kernel
theorem dX4_useAt_0 : decode cX4_useAt 0 = .ok (.iload_n 2, 1) := by decide +kernel
theorem dX4_useAt_1 : decode cX4_useAt 1 = .ok (.bipush 7, 2) := by decide +kernel
theorem dX4_useAt_3 : decode cX4_useAt 3 = .ok (.if_icmp .ne 9, 3) := by decide +kernel
theorem dX4_useAt_6 : decode cX4_useAt 6 = .ok (.aload_n 0, 1) := by decide +kernel
theorem dX4_useAt_7 : decode cX4_useAt 7 = .ok (.iload_n 1, 1) := by decide +kernel
theorem dX4_useAt_8 : decode cX4_useAt 8 = .ok (.invokevirtual 62, 3) := by decide +kernel
theorem dX4_useAt_11 : decode cX4_useAt 11 = .ok (.return_, 1) := by decide +kernel
theorem dX4_useAt_12 : decode cX4_useAt 12 = .ok (.aload_n 0, 1) := by decide +kernel
theorem dX4_useAt_13 : decode cX4_useAt 13 = .ok (.getfield 25, 3) := by decide +kernel
theorem dX4_useAt_16 : decode cX4_useAt 16 = .ok (.iload_n 1, 1) := by decide +kernel
theorem dX4_useAt_17 : decode cX4_useAt 17 = .ok (.aaload, 1) := by decide +kernel
theorem dX4_useAt_18 : decode cX4_useAt 18 = .ok (.astore_n 3, 1) := by decide +kernel
theorem dX4_useAt_19 : decode cX4_useAt 19 = .ok (.aload_n 0, 1) := by decide +kernel
theorem dX4_useAt_20 : decode cX4_useAt 20 = .ok (.getfield 25, 3) := by decide +kernel
theorem dX4_useAt_23 : decode cX4_useAt 23 = .ok (.iload_n 1, 1) := by decide +kernel
theorem dX4_useAt_24 : decode cX4_useAt 24 = .ok (.iconst 1, 1) := by decide +kernel
theorem dX4_useAt_25 : decode cX4_useAt 25 = .ok (.iadd, 1) := by decide +kernel
theorem dX4_useAt_26 : decode cX4_useAt 26 = .ok (.aaload, 1) := by decide +kernel
theorem dX4_useAt_27 : decode cX4_useAt 27 = .ok (.astore 4, 2) := by decide +kernel
theorem dX4_useAt_29 : decode cX4_useAt 29 = .ok (.iload_n 2, 1) := by decide +kernel
theorem dX4_useAt_30 : decode cX4_useAt 30 = .ok (.tableswitch 163 0 6 #[42, 42, 58, 90, 163, 116, 131], 42) := by decide +kernel
theorem dX4_useAt_72 : decode cX4_useAt 72 = .ok (.aload_n 3, 1) := by decide +kernel
theorem dX4_useAt_73 : decode cX4_useAt 73 = .ok (.aload 4, 2) := by decide +kernel
theorem dX4_useAt_75 : decode cX4_useAt 75 = .ok (.invokevirtual 66, 3) := by decide +kernel
theorem dX4_useAt_78 : decode cX4_useAt 78 = .ok (.aload_n 0, 1) := by decide +kernel
theorem dX4_useAt_79 : decode cX4_useAt 79 = .ok (.iload_n 1, 1) := by decide +kernel
theorem dX4_useAt_80 : decode cX4_useAt 80 = .ok (.iconst 1, 1) := by decide +kernel
theorem dX4_useAt_81 : decode cX4_useAt 81 = .ok (.iadd, 1) := by decide +kernel
theorem dX4_useAt_82 : decode cX4_useAt 82 = .ok (.invokevirtual 62, 3) := by decide +kernel
theorem dX4_useAt_85 : decode cX4_useAt 85 = .ok (.goto 113, 3) := by decide +kernel
theorem dX4_useAt_88 : decode cX4_useAt 88 = .ok (.aload_n 3, 1) := by decide +kernel
theorem dX4_useAt_89 : decode cX4_useAt 89 = .ok (.getfield 70, 3) := by decide +kernel
theorem dX4_useAt_92 : decode cX4_useAt 92 = .ok (.iconst 0, 1) := by decide +kernel
theorem dX4_useAt_93 : decode cX4_useAt 93 = .ok (.aload_n 3, 1) := by decide +kernel
theorem dX4_useAt_94 : decode cX4_useAt 94 = .ok (.getfield 70, 3) := by decide +kernel
theorem dX4_useAt_97 : decode cX4_useAt 97 = .ok (.iconst 0, 1) := by decide +kernel
theorem dX4_useAt_98 : decode cX4_useAt 98 = .ok (.laload, 1) := by decide +kernel
theorem dX4_useAt_99 : decode cX4_useAt 99 = .ok (.aload 4, 2) := by decide +kernel
theorem dX4_useAt_101 : decode cX4_useAt 101 = .ok (.getfield 70, 3) := by decide +kernel
theorem dX4_useAt_104 : decode cX4_useAt 104 = .ok (.iconst 0, 1) := by decide +kernel
theorem dX4_useAt_105 : decode cX4_useAt 105 = .ok (.laload, 1) := by decide +kernel
theorem dX4_useAt_106 : decode cX4_useAt 106 = .ok (.invokestatic 74, 3) := by decide +kernel
theorem dX4_useAt_109 : decode cX4_useAt 109 = .ok (.lastore, 1) := by decide +kernel
theorem dX4_useAt_110 : decode cX4_useAt 110 = .ok (.aload_n 0, 1) := by decide +kernel
theorem dX4_useAt_111 : decode cX4_useAt 111 = .ok (.iload_n 1, 1) := by decide +kernel
theorem dX4_useAt_112 : decode cX4_useAt 112 = .ok (.iconst 1, 1) := by decide +kernel
theorem dX4_useAt_113 : decode cX4_useAt 113 = .ok (.iadd, 1) := by decide +kernel
theorem dX4_useAt_114 : decode cX4_useAt 114 = .ok (.invokevirtual 62, 3) := by decide +kernel
theorem dX4_useAt_117 : decode cX4_useAt 117 = .ok (.goto 81, 3) := by decide +kernel
theorem dX4_useAt_120 : decode cX4_useAt 120 = .ok (.aload_n 3, 1) := by decide +kernel
theorem dX4_useAt_121 : decode cX4_useAt 121 = .ok (.getfield 70, 3) := by decide +kernel
theorem dX4_useAt_124 : decode cX4_useAt 124 = .ok (.iconst 0, 1) := by decide +kernel
theorem dX4_useAt_125 : decode cX4_useAt 125 = .ok (.dup2, 1) := by decide +kernel
theorem dX4_useAt_126 : decode cX4_useAt 126 = .ok (.laload, 1) := by decide +kernel
theorem dX4_useAt_127 : decode cX4_useAt 127 = .ok (.aload 4, 2) := by decide +kernel
theorem dX4_useAt_129 : decode cX4_useAt 129 = .ok (.getfield 70, 3) := by decide +kernel
theorem dX4_useAt_132 : decode cX4_useAt 132 = .ok (.iconst 0, 1) := by decide +kernel
theorem dX4_useAt_133 : decode cX4_useAt 133 = .ok (.laload, 1) := by decide +kernel
theorem dX4_useAt_134 : decode cX4_useAt 134 = .ok (.ladd, 1) := by decide +kernel
theorem dX4_useAt_135 : decode cX4_useAt 135 = .ok (.lastore, 1) := by decide +kernel
theorem dX4_useAt_136 : decode cX4_useAt 136 = .ok (.aload_n 0, 1) := by decide +kernel
theorem dX4_useAt_137 : decode cX4_useAt 137 = .ok (.iload_n 1, 1) := by decide +kernel
theorem dX4_useAt_138 : decode cX4_useAt 138 = .ok (.iconst 1, 1) := by decide +kernel
theorem dX4_useAt_139 : decode cX4_useAt 139 = .ok (.iadd, 1) := by decide +kernel
theorem dX4_useAt_140 : decode cX4_useAt 140 = .ok (.invokevirtual 62, 3) := by decide +kernel
theorem dX4_useAt_143 : decode cX4_useAt 143 = .ok (.goto 55, 3) := by decide +kernel
theorem dX4_useAt_146 : decode cX4_useAt 146 = .ok (.aload_n 0, 1) := by decide +kernel
theorem dX4_useAt_147 : decode cX4_useAt 147 = .ok (.iload_n 1, 1) := by decide +kernel
theorem dX4_useAt_148 : decode cX4_useAt 148 = .ok (.iconst 1, 1) := by decide +kernel
theorem dX4_useAt_149 : decode cX4_useAt 149 = .ok (.iadd, 1) := by decide +kernel
theorem dX4_useAt_150 : decode cX4_useAt 150 = .ok (.invokevirtual 62, 3) := by decide +kernel
theorem dX4_useAt_153 : decode cX4_useAt 153 = .ok (.aload_n 0, 1) := by decide +kernel
theorem dX4_useAt_154 : decode cX4_useAt 154 = .ok (.iload_n 1, 1) := by decide +kernel
theorem dX4_useAt_155 : decode cX4_useAt 155 = .ok (.invokevirtual 62, 3) := by decide +kernel
theorem dX4_useAt_158 : decode cX4_useAt 158 = .ok (.goto 40, 3) := by decide +kernel
theorem dX4_useAt_161 : decode cX4_useAt 161 = .ok (.aload_n 3, 1) := by decide +kernel
theorem dX4_useAt_162 : decode cX4_useAt 162 = .ok (.getfield 70, 3) := by decide +kernel
theorem dX4_useAt_165 : decode cX4_useAt 165 = .ok (.iconst 0, 1) := by decide +kernel
theorem dX4_useAt_166 : decode cX4_useAt 166 = .ok (.lconst 0, 1) := by decide +kernel
theorem dX4_useAt_167 : decode cX4_useAt 167 = .ok (.aload_n 3, 1) := by decide +kernel
theorem dX4_useAt_168 : decode cX4_useAt 168 = .ok (.getfield 70, 3) := by decide +kernel
theorem dX4_useAt_171 : decode cX4_useAt 171 = .ok (.iconst 0, 1) := by decide +kernel
theorem dX4_useAt_172 : decode cX4_useAt 172 = .ok (.laload, 1) := by decide +kernel
theorem dX4_useAt_173 : decode cX4_useAt 173 = .ok (.aload 4, 2) := by decide +kernel
theorem dX4_useAt_175 : decode cX4_useAt 175 = .ok (.getfield 70, 3) := by decide +kernel
theorem dX4_useAt_178 : decode cX4_useAt 178 = .ok (.iconst 0, 1) := by decide +kernel
theorem dX4_useAt_179 : decode cX4_useAt 179 = .ok (.laload, 1) := by decide +kernel
theorem dX4_useAt_180 : decode cX4_useAt 180 = .ok (.lsub, 1) := by decide +kernel
theorem dX4_useAt_181 : decode cX4_useAt 181 = .ok (.invokestatic 80, 3) := by decide +kernel
theorem dX4_useAt_184 : decode cX4_useAt 184 = .ok (.lastore, 1) := by decide +kernel
theorem dX4_useAt_185 : decode cX4_useAt 185 = .ok (.aload_n 0, 1) := by decide +kernel
theorem dX4_useAt_186 : decode cX4_useAt 186 = .ok (.iload_n 1, 1) := by decide +kernel
theorem dX4_useAt_187 : decode cX4_useAt 187 = .ok (.invokevirtual 83, 3) := by decide +kernel
theorem dX4_useAt_190 : decode cX4_useAt 190 = .ok (.goto 8, 3) := by decide +kernel
theorem dX4_useAt_193 : decode cX4_useAt 193 = .ok (.aload_n 0, 1) := by decide +kernel
theorem dX4_useAt_194 : decode cX4_useAt 194 = .ok (.iload_n 1, 1) := by decide +kernel
theorem dX4_useAt_195 : decode cX4_useAt 195 = .ok (.invokevirtual 83, 3) := by decide +kernel
theorem dX4_useAt_198 : decode cX4_useAt 198 = .ok (.return_, 1) := by decide +kernel
