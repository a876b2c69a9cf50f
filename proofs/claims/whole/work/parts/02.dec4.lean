theorem dX6_findFew_0 : decode cX6_findFew 0 = .ok (.aload_n 0, 1) := by decide +kernel
theorem dX6_findFew_1 : decode cX6_findFew 1 = .ok (.getfield 13, 3) := by decide +kernel
theorem dX6_findFew_4 : decode cX6_findFew 4 = .ok (.iload_n 1, 1) := by decide +kernel
theorem dX6_findFew_5 : decode cX6_findFew 5 = .ok (.iaload, 1) := by decide +kernel
theorem dX6_findFew_6 : decode cX6_findFew 6 = .ok (.istore_n 3, 1) := by decide +kernel
theorem dX6_findFew_7 : decode cX6_findFew 7 = .ok (.iload_n 3, 1) := by decide +kernel
theorem dX6_findFew_8 : decode cX6_findFew 8 = .ok (.ifCond .lt 222, 3) := by decide +kernel
theorem dX6_findFew_11 : decode cX6_findFew 11 = .ok (.aload_n 0, 1) := by decide +kernel
theorem dX6_findFew_12 : decode cX6_findFew 12 = .ok (.getfield 13, 3) := by decide +kernel
theorem dX6_findFew_15 : decode cX6_findFew 15 = .ok (.iload_n 2, 1) := by decide +kernel
theorem dX6_findFew_16 : decode cX6_findFew 16 = .ok (.iaload, 1) := by decide +kernel
theorem dX6_findFew_17 : decode cX6_findFew 17 = .ok (.istore 4, 2) := by decide +kernel
theorem dX6_findFew_19 : decode cX6_findFew 19 = .ok (.iload 4, 2) := by decide +kernel
theorem dX6_findFew_21 : decode cX6_findFew 21 = .ok (.ifCond .lt 203, 3) := by decide +kernel
theorem dX6_findFew_24 : decode cX6_findFew 24 = .ok (.iload_n 3, 1) := by decide +kernel
theorem dX6_findFew_25 : decode cX6_findFew 25 = .ok (.aload_n 0, 1) := by decide +kernel
theorem dX6_findFew_26 : decode cX6_findFew 26 = .ok (.getfield 13, 3) := by decide +kernel
theorem dX6_findFew_29 : decode cX6_findFew 29 = .ok (.iload_n 1, 1) := by decide +kernel
theorem dX6_findFew_30 : decode cX6_findFew 30 = .ok (.iaload, 1) := by decide +kernel
theorem dX6_findFew_31 : decode cX6_findFew 31 = .ok (.if_icmp .ne 18, 3) := by decide +kernel
theorem dX6_findFew_34 : decode cX6_findFew 34 = .ok (.iload 4, 2) := by decide +kernel
theorem dX6_findFew_36 : decode cX6_findFew 36 = .ok (.aload_n 0, 1) := by decide +kernel
theorem dX6_findFew_37 : decode cX6_findFew 37 = .ok (.getfield 13, 3) := by decide +kernel
theorem dX6_findFew_40 : decode cX6_findFew 40 = .ok (.iload_n 2, 1) := by decide +kernel
theorem dX6_findFew_41 : decode cX6_findFew 41 = .ok (.iaload, 1) := by decide +kernel
theorem dX6_findFew_42 : decode cX6_findFew 42 = .ok (.if_icmp .ne 7, 3) := by decide +kernel
theorem dX6_findFew_45 : decode cX6_findFew 45 = .ok (.iconst 0, 1) := by decide +kernel
theorem dX6_findFew_46 : decode cX6_findFew 46 = .ok (.goto 6, 3) := by decide +kernel
theorem dX6_findFew_49 : decode cX6_findFew 49 = .ok (.sipush 1000, 3) := by decide +kernel
theorem dX6_findFew_52 : decode cX6_findFew 52 = .ok (.istore 5, 2) := by decide +kernel
theorem dX6_findFew_54 : decode cX6_findFew 54 = .ok (.iload_n 3, 1) := by decide +kernel
theorem dX6_findFew_55 : decode cX6_findFew 55 = .ok (.aload_n 0, 1) := by decide +kernel
theorem dX6_findFew_56 : decode cX6_findFew 56 = .ok (.getfield 13, 3) := by decide +kernel
theorem dX6_findFew_59 : decode cX6_findFew 59 = .ok (.iload_n 1, 1) := by decide +kernel
theorem dX6_findFew_60 : decode cX6_findFew 60 = .ok (.iaload, 1) := by decide +kernel
theorem dX6_findFew_61 : decode cX6_findFew 61 = .ok (.if_icmp .ge 42, 3) := by decide +kernel
theorem dX6_findFew_64 : decode cX6_findFew 64 = .ok (.aload_n 0, 1) := by decide +kernel
theorem dX6_findFew_65 : decode cX6_findFew 65 = .ok (.getfield 46, 3) := by decide +kernel
theorem dX6_findFew_68 : decode cX6_findFew 68 = .ok (.bipush 41, 2) := by decide +kernel
theorem dX6_findFew_70 : decode cX6_findFew 70 = .ok (.iload_n 3, 1) := by decide +kernel
theorem dX6_findFew_71 : decode cX6_findFew 71 = .ok (.iconst 1, 1) := by decide +kernel
theorem dX6_findFew_72 : decode cX6_findFew 72 = .ok (.iadd, 1) := by decide +kernel
theorem dX6_findFew_73 : decode cX6_findFew 73 = .ok (.imul, 1) := by decide +kernel
theorem dX6_findFew_74 : decode cX6_findFew 74 = .ok (.iload 4, 2) := by decide +kernel
theorem dX6_findFew_76 : decode cX6_findFew 76 = .ok (.iadd, 1) := by decide +kernel
theorem dX6_findFew_77 : decode cX6_findFew 77 = .ok (.iaload, 1) := by decide +kernel
theorem dX6_findFew_78 : decode cX6_findFew 78 = .ok (.iconst 1, 1) := by decide +kernel
theorem dX6_findFew_79 : decode cX6_findFew 79 = .ok (.iadd, 1) := by decide +kernel
theorem dX6_findFew_80 : decode cX6_findFew 80 = .ok (.iload 5, 2) := by decide +kernel
theorem dX6_findFew_82 : decode cX6_findFew 82 = .ok (.if_icmp .ge 21, 3) := by decide +kernel
theorem dX6_findFew_85 : decode cX6_findFew 85 = .ok (.aload_n 0, 1) := by decide +kernel
theorem dX6_findFew_86 : decode cX6_findFew 86 = .ok (.getfield 46, 3) := by decide +kernel
theorem dX6_findFew_89 : decode cX6_findFew 89 = .ok (.bipush 41, 2) := by decide +kernel
theorem dX6_findFew_91 : decode cX6_findFew 91 = .ok (.iload_n 3, 1) := by decide +kernel
theorem dX6_findFew_92 : decode cX6_findFew 92 = .ok (.iconst 1, 1) := by decide +kernel
theorem dX6_findFew_93 : decode cX6_findFew 93 = .ok (.iadd, 1) := by decide +kernel
theorem dX6_findFew_94 : decode cX6_findFew 94 = .ok (.imul, 1) := by decide +kernel
theorem dX6_findFew_95 : decode cX6_findFew 95 = .ok (.iload 4, 2) := by decide +kernel
theorem dX6_findFew_97 : decode cX6_findFew 97 = .ok (.iadd, 1) := by decide +kernel
theorem dX6_findFew_98 : decode cX6_findFew 98 = .ok (.iaload, 1) := by decide +kernel
theorem dX6_findFew_99 : decode cX6_findFew 99 = .ok (.iconst 1, 1) := by decide +kernel
theorem dX6_findFew_100 : decode cX6_findFew 100 = .ok (.iadd, 1) := by decide +kernel
theorem dX6_findFew_101 : decode cX6_findFew 101 = .ok (.istore 5, 2) := by decide +kernel
theorem dX6_findFew_103 : decode cX6_findFew 103 = .ok (.iload 4, 2) := by decide +kernel
theorem dX6_findFew_105 : decode cX6_findFew 105 = .ok (.aload_n 0, 1) := by decide +kernel
theorem dX6_findFew_106 : decode cX6_findFew 106 = .ok (.getfield 13, 3) := by decide +kernel
theorem dX6_findFew_109 : decode cX6_findFew 109 = .ok (.iload_n 2, 1) := by decide +kernel
theorem dX6_findFew_110 : decode cX6_findFew 110 = .ok (.iaload, 1) := by decide +kernel
theorem dX6_findFew_111 : decode cX6_findFew 111 = .ok (.if_icmp .ge 42, 3) := by decide +kernel
theorem dX6_findFew_114 : decode cX6_findFew 114 = .ok (.aload_n 0, 1) := by decide +kernel
theorem dX6_findFew_115 : decode cX6_findFew 115 = .ok (.getfield 46, 3) := by decide +kernel
theorem dX6_findFew_118 : decode cX6_findFew 118 = .ok (.bipush 41, 2) := by decide +kernel
theorem dX6_findFew_120 : decode cX6_findFew 120 = .ok (.iload_n 3, 1) := by decide +kernel
theorem dX6_findFew_121 : decode cX6_findFew 121 = .ok (.imul, 1) := by decide +kernel
theorem dX6_findFew_122 : decode cX6_findFew 122 = .ok (.iload 4, 2) := by decide +kernel
theorem dX6_findFew_124 : decode cX6_findFew 124 = .ok (.iadd, 1) := by decide +kernel
theorem dX6_findFew_125 : decode cX6_findFew 125 = .ok (.iconst 1, 1) := by decide +kernel
theorem dX6_findFew_126 : decode cX6_findFew 126 = .ok (.iadd, 1) := by decide +kernel
theorem dX6_findFew_127 : decode cX6_findFew 127 = .ok (.iaload, 1) := by decide +kernel
theorem dX6_findFew_128 : decode cX6_findFew 128 = .ok (.iconst 1, 1) := by decide +kernel
theorem dX6_findFew_129 : decode cX6_findFew 129 = .ok (.iadd, 1) := by decide +kernel
theorem dX6_findFew_130 : decode cX6_findFew 130 = .ok (.iload 5, 2) := by decide +kernel
theorem dX6_findFew_132 : decode cX6_findFew 132 = .ok (.if_icmp .ge 21, 3) := by decide +kernel
theorem dX6_findFew_135 : decode cX6_findFew 135 = .ok (.aload_n 0, 1) := by decide +kernel
theorem dX6_findFew_136 : decode cX6_findFew 136 = .ok (.getfield 46, 3) := by decide +kernel
theorem dX6_findFew_139 : decode cX6_findFew 139 = .ok (.bipush 41, 2) := by decide +kernel
theorem dX6_findFew_141 : decode cX6_findFew 141 = .ok (.iload_n 3, 1) := by decide +kernel
theorem dX6_findFew_142 : decode cX6_findFew 142 = .ok (.imul, 1) := by decide +kernel
theorem dX6_findFew_143 : decode cX6_findFew 143 = .ok (.iload 4, 2) := by decide +kernel
theorem dX6_findFew_145 : decode cX6_findFew 145 = .ok (.iadd, 1) := by decide +kernel
theorem dX6_findFew_146 : decode cX6_findFew 146 = .ok (.iconst 1, 1) := by decide +kernel
theorem dX6_findFew_147 : decode cX6_findFew 147 = .ok (.iadd, 1) := by decide +kernel
theorem dX6_findFew_148 : decode cX6_findFew 148 = .ok (.iaload, 1) := by decide +kernel
theorem dX6_findFew_149 : decode cX6_findFew 149 = .ok (.iconst 1, 1) := by decide +kernel
theorem dX6_findFew_150 : decode cX6_findFew 150 = .ok (.iadd, 1) := by decide +kernel
theorem dX6_findFew_151 : decode cX6_findFew 151 = .ok (.istore 5, 2) := by decide +kernel
theorem dX6_findFew_153 : decode cX6_findFew 153 = .ok (.aload_n 0, 1) := by decide +kernel
theorem dX6_findFew_154 : decode cX6_findFew 154 = .ok (.iload_n 1, 1) := by decide +kernel
theorem dX6_findFew_155 : decode cX6_findFew 155 = .ok (.iload_n 3, 1) := by decide +kernel
theorem dX6_findFew_156 : decode cX6_findFew 156 = .ok (.iload_n 2, 1) := by decide +kernel
theorem dX6_findFew_157 : decode cX6_findFew 157 = .ok (.iload 4, 2) := by decide +kernel
theorem dX6_findFew_159 : decode cX6_findFew 159 = .ok (.invokevirtual 73, 3) := by decide +kernel
theorem dX6_findFew_162 : decode cX6_findFew 162 = .ok (.ifCond .eq 42, 3) := by decide +kernel
theorem dX6_findFew_165 : decode cX6_findFew 165 = .ok (.aload_n 0, 1) := by decide +kernel
theorem dX6_findFew_166 : decode cX6_findFew 166 = .ok (.getfield 46, 3) := by decide +kernel
theorem dX6_findFew_169 : decode cX6_findFew 169 = .ok (.bipush 41, 2) := by decide +kernel
theorem dX6_findFew_171 : decode cX6_findFew 171 = .ok (.iload_n 3, 1) := by decide +kernel
theorem dX6_findFew_172 : decode cX6_findFew 172 = .ok (.iconst 1, 1) := by decide +kernel
theorem dX6_findFew_173 : decode cX6_findFew 173 = .ok (.iadd, 1) := by decide +kernel
theorem dX6_findFew_174 : decode cX6_findFew 174 = .ok (.imul, 1) := by decide +kernel
theorem dX6_findFew_175 : decode cX6_findFew 175 = .ok (.iload 4, 2) := by decide +kernel
theorem dX6_findFew_177 : decode cX6_findFew 177 = .ok (.iadd, 1) := by decide +kernel
theorem dX6_findFew_178 : decode cX6_findFew 178 = .ok (.iconst 1, 1) := by decide +kernel
theorem dX6_findFew_179 : decode cX6_findFew 179 = .ok (.iadd, 1) := by decide +kernel
theorem dX6_findFew_180 : decode cX6_findFew 180 = .ok (.iaload, 1) := by decide +kernel
theorem dX6_findFew_181 : decode cX6_findFew 181 = .ok (.iload 5, 2) := by decide +kernel
theorem dX6_findFew_183 : decode cX6_findFew 183 = .ok (.if_icmp .ge 21, 3) := by decide +kernel
theorem dX6_findFew_186 : decode cX6_findFew 186 = .ok (.aload_n 0, 1) := by decide +kernel
theorem dX6_findFew_187 : decode cX6_findFew 187 = .ok (.getfield 46, 3) := by decide +kernel
theorem dX6_findFew_190 : decode cX6_findFew 190 = .ok (.bipush 41, 2) := by decide +kernel
theorem dX6_findFew_192 : decode cX6_findFew 192 = .ok (.iload_n 3, 1) := by decide +kernel
theorem dX6_findFew_193 : decode cX6_findFew 193 = .ok (.iconst 1, 1) := by decide +kernel
theorem dX6_findFew_194 : decode cX6_findFew 194 = .ok (.iadd, 1) := by decide +kernel
theorem dX6_findFew_195 : decode cX6_findFew 195 = .ok (.imul, 1) := by decide +kernel
theorem dX6_findFew_196 : decode cX6_findFew 196 = .ok (.iload 4, 2) := by decide +kernel
theorem dX6_findFew_198 : decode cX6_findFew 198 = .ok (.iadd, 1) := by decide +kernel
theorem dX6_findFew_199 : decode cX6_findFew 199 = .ok (.iconst 1, 1) := by decide +kernel
theorem dX6_findFew_200 : decode cX6_findFew 200 = .ok (.iadd, 1) := by decide +kernel
theorem dX6_findFew_201 : decode cX6_findFew 201 = .ok (.iaload, 1) := by decide +kernel
theorem dX6_findFew_202 : decode cX6_findFew 202 = .ok (.istore 5, 2) := by decide +kernel
theorem dX6_findFew_204 : decode cX6_findFew 204 = .ok (.aload_n 0, 1) := by decide +kernel
theorem dX6_findFew_205 : decode cX6_findFew 205 = .ok (.getfield 46, 3) := by decide +kernel
theorem dX6_findFew_208 : decode cX6_findFew 208 = .ok (.bipush 41, 2) := by decide +kernel
theorem dX6_findFew_210 : decode cX6_findFew 210 = .ok (.iload_n 3, 1) := by decide +kernel
theorem dX6_findFew_211 : decode cX6_findFew 211 = .ok (.imul, 1) := by decide +kernel
theorem dX6_findFew_212 : decode cX6_findFew 212 = .ok (.iload 4, 2) := by decide +kernel
theorem dX6_findFew_214 : decode cX6_findFew 214 = .ok (.iadd, 1) := by decide +kernel
theorem dX6_findFew_215 : decode cX6_findFew 215 = .ok (.iload 5, 2) := by decide +kernel
theorem dX6_findFew_217 : decode cX6_findFew 217 = .ok (.iastore, 1) := by decide +kernel
theorem dX6_findFew_218 : decode cX6_findFew 218 = .ok (.iinc 4 (-1), 3) := by decide +kernel
theorem dX6_findFew_221 : decode cX6_findFew 221 = .ok (.goto (-202), 3) := by decide +kernel
theorem dX6_findFew_224 : decode cX6_findFew 224 = .ok (.iinc 3 (-1), 3) := by decide +kernel
theorem dX6_findFew_227 : decode cX6_findFew 227 = .ok (.goto (-220), 3) := by decide +kernel
theorem dX6_findFew_230 : decode cX6_findFew 230 = .ok (.aload_n 0, 1) := by decide +kernel
theorem dX6_findFew_231 : decode cX6_findFew 231 = .ok (.getfield 46, 3) := by decide +kernel
theorem dX6_findFew_234 : decode cX6_findFew 234 = .ok (.iconst 0, 1) := by decide +kernel
theorem dX6_findFew_235 : decode cX6_findFew 235 = .ok (.iaload, 1) := by decide +kernel
theorem dX6_findFew_236 : decode cX6_findFew 236 = .ok (.ireturn, 1) := by decide +kernel
theorem dX6_differ_0 : decode cX6_differ 0 = .ok (.iload_n 1, 1) := by decide +kernel
theorem dX6_differ_1 : decode cX6_differ 1 = .ok (.invokestatic 66, 3) := by decide +kernel
theorem dX6_differ_4 : decode cX6_differ 4 = .ok (.ifCond .eq 19, 3) := by decide +kernel
theorem dX6_differ_7 : decode cX6_differ 7 = .ok (.iload_n 2, 1) := by decide +kernel
theorem dX6_differ_8 : decode cX6_differ 8 = .ok (.invokestatic 66, 3) := by decide +kernel
theorem dX6_differ_11 : decode cX6_differ 11 = .ok (.ifCond .eq 12, 3) := by decide +kernel
theorem dX6_differ_14 : decode cX6_differ 14 = .ok (.aload_n 0, 1) := by decide +kernel
theorem dX6_differ_15 : decode cX6_differ 15 = .ok (.iload_n 1, 1) := by decide +kernel
theorem dX6_differ_16 : decode cX6_differ 16 = .ok (.iload_n 2, 1) := by decide +kernel
theorem dX6_differ_17 : decode cX6_differ 17 = .ok (.invokevirtual 77, 3) := by decide +kernel
theorem dX6_differ_20 : decode cX6_differ 20 = .ok (.goto 5, 3) := by decide +kernel
theorem dX6_differ_23 : decode cX6_differ 23 = .ok (.bipush (-2), 2) := by decide +kernel
theorem dX6_differ_25 : decode cX6_differ 25 = .ok (.ireturn, 1) := by decide +kernel
theorem dX6_step_0 : decode cX6_step 0 = .ok (.iload_n 1, 1) := by decide +kernel
theorem dX6_step_1 : decode cX6_step 1 = .ok (.invokestatic 66, 3) := by decide +kernel
theorem dX6_step_4 : decode cX6_step 4 = .ok (.ifCond .eq 10, 3) := by decide +kernel
theorem dX6_step_7 : decode cX6_step 7 = .ok (.iload_n 2, 1) := by decide +kernel
theorem dX6_step_8 : decode cX6_step 8 = .ok (.invokestatic 66, 3) := by decide +kernel
theorem dX6_step_11 : decode cX6_step 11 = .ok (.ifCond .ne 6, 3) := by decide +kernel
theorem dX6_step_14 : decode cX6_step 14 = .ok (.bipush (-2), 2) := by decide +kernel
theorem dX6_step_16 : decode cX6_step 16 = .ok (.ireturn, 1) := by decide +kernel
theorem dX6_step_17 : decode cX6_step 17 = .ok (.aload_n 0, 1) := by decide +kernel
theorem dX6_step_18 : decode cX6_step 18 = .ok (.iload_n 1, 1) := by decide +kernel
theorem dX6_step_19 : decode cX6_step 19 = .ok (.iload_n 2, 1) := by decide +kernel
theorem dX6_step_20 : decode cX6_step 20 = .ok (.invokevirtual 77, 3) := by decide +kernel
theorem dX6_step_23 : decode cX6_step 23 = .ok (.istore 4, 2) := by decide +kernel
theorem dX6_step_25 : decode cX6_step 25 = .ok (.iconst 0, 1) := by decide +kernel
theorem dX6_step_26 : decode cX6_step 26 = .ok (.istore 5, 2) := by decide +kernel
theorem dX6_step_28 : decode cX6_step 28 = .ok (.iconst 0, 1) := by decide +kernel
theorem dX6_step_29 : decode cX6_step 29 = .ok (.istore 6, 2) := by decide +kernel
theorem dX6_step_31 : decode cX6_step 31 = .ok (.iconst 0, 1) := by decide +kernel
theorem dX6_step_32 : decode cX6_step 32 = .ok (.istore 7, 2) := by decide +kernel
theorem dX6_step_34 : decode cX6_step 34 = .ok (.iload 5, 2) := by decide +kernel
theorem dX6_step_36 : decode cX6_step 36 = .ok (.aload_n 0, 1) := by decide +kernel
theorem dX6_step_37 : decode cX6_step 37 = .ok (.getfield 13, 3) := by decide +kernel
theorem dX6_step_40 : decode cX6_step 40 = .ok (.iload_n 1, 1) := by decide +kernel
theorem dX6_step_41 : decode cX6_step 41 = .ok (.iaload, 1) := by decide +kernel
theorem dX6_step_42 : decode cX6_step 42 = .ok (.if_icmp .lt 14, 3) := by decide +kernel
theorem dX6_step_45 : decode cX6_step 45 = .ok (.iload 6, 2) := by decide +kernel
theorem dX6_step_47 : decode cX6_step 47 = .ok (.aload_n 0, 1) := by decide +kernel
theorem dX6_step_48 : decode cX6_step 48 = .ok (.getfield 13, 3) := by decide +kernel
theorem dX6_step_51 : decode cX6_step 51 = .ok (.iload_n 2, 1) := by decide +kernel
theorem dX6_step_52 : decode cX6_step 52 = .ok (.iaload, 1) := by decide +kernel
theorem dX6_step_53 : decode cX6_step 53 = .ok (.if_icmp .ge 144, 3) := by decide +kernel
theorem dX6_step_56 : decode cX6_step 56 = .ok (.aload_n 0, 1) := by decide +kernel
theorem dX6_step_57 : decode cX6_step 57 = .ok (.iload_n 1, 1) := by decide +kernel
theorem dX6_step_58 : decode cX6_step 58 = .ok (.iload 5, 2) := by decide +kernel
theorem dX6_step_60 : decode cX6_step 60 = .ok (.iload_n 2, 1) := by decide +kernel
theorem dX6_step_61 : decode cX6_step 61 = .ok (.iload 6, 2) := by decide +kernel
theorem dX6_step_63 : decode cX6_step 63 = .ok (.invokevirtual 73, 3) := by decide +kernel
theorem dX6_step_66 : decode cX6_step 66 = .ok (.ifCond .eq 29, 3) := by decide +kernel
theorem dX6_step_69 : decode cX6_step 69 = .ok (.aload_n 0, 1) := by decide +kernel
theorem dX6_step_70 : decode cX6_step 70 = .ok (.getfield 46, 3) := by decide +kernel
theorem dX6_step_73 : decode cX6_step 73 = .ok (.bipush 41, 2) := by decide +kernel
theorem dX6_step_75 : decode cX6_step 75 = .ok (.iload 5, 2) := by decide +kernel
theorem dX6_step_77 : decode cX6_step 77 = .ok (.iconst 1, 1) := by decide +kernel
theorem dX6_step_78 : decode cX6_step 78 = .ok (.iadd, 1) := by decide +kernel
theorem dX6_step_79 : decode cX6_step 79 = .ok (.imul, 1) := by decide +kernel
theorem dX6_step_80 : decode cX6_step 80 = .ok (.iload 6, 2) := by decide +kernel
theorem dX6_step_82 : decode cX6_step 82 = .ok (.iadd, 1) := by decide +kernel
theorem dX6_step_83 : decode cX6_step 83 = .ok (.iconst 1, 1) := by decide +kernel
theorem dX6_step_84 : decode cX6_step 84 = .ok (.iadd, 1) := by decide +kernel
theorem dX6_step_85 : decode cX6_step 85 = .ok (.iaload, 1) := by decide +kernel
theorem dX6_step_86 : decode cX6_step 86 = .ok (.iload 4, 2) := by decide +kernel
theorem dX6_step_88 : decode cX6_step 88 = .ok (.if_icmp .ne 7, 3) := by decide +kernel
theorem dX6_step_91 : decode cX6_step 91 = .ok (.iconst 0, 1) := by decide +kernel
theorem dX6_step_92 : decode cX6_step 92 = .ok (.goto 41, 3) := by decide +kernel
theorem dX6_step_95 : decode cX6_step 95 = .ok (.iload 5, 2) := by decide +kernel
theorem dX6_step_97 : decode cX6_step 97 = .ok (.aload_n 0, 1) := by decide +kernel
theorem dX6_step_98 : decode cX6_step 98 = .ok (.getfield 13, 3) := by decide +kernel
theorem dX6_step_101 : decode cX6_step 101 = .ok (.iload_n 1, 1) := by decide +kernel
theorem dX6_step_102 : decode cX6_step 102 = .ok (.iaload, 1) := by decide +kernel
theorem dX6_step_103 : decode cX6_step 103 = .ok (.if_icmp .ge 29, 3) := by decide +kernel
theorem dX6_step_106 : decode cX6_step 106 = .ok (.aload_n 0, 1) := by decide +kernel
theorem dX6_step_107 : decode cX6_step 107 = .ok (.getfield 46, 3) := by decide +kernel
theorem dX6_step_110 : decode cX6_step 110 = .ok (.bipush 41, 2) := by decide +kernel
theorem dX6_step_112 : decode cX6_step 112 = .ok (.iload 5, 2) := by decide +kernel
theorem dX6_step_114 : decode cX6_step 114 = .ok (.iconst 1, 1) := by decide +kernel
theorem dX6_step_115 : decode cX6_step 115 = .ok (.iadd, 1) := by decide +kernel
theorem dX6_step_116 : decode cX6_step 116 = .ok (.imul, 1) := by decide +kernel
theorem dX6_step_117 : decode cX6_step 117 = .ok (.iload 6, 2) := by decide +kernel
theorem dX6_step_119 : decode cX6_step 119 = .ok (.iadd, 1) := by decide +kernel
theorem dX6_step_120 : decode cX6_step 120 = .ok (.iaload, 1) := by decide +kernel
theorem dX6_step_121 : decode cX6_step 121 = .ok (.iconst 1, 1) := by decide +kernel
theorem dX6_step_122 : decode cX6_step 122 = .ok (.iadd, 1) := by decide +kernel
theorem dX6_step_123 : decode cX6_step 123 = .ok (.iload 4, 2) := by decide +kernel
theorem dX6_step_125 : decode cX6_step 125 = .ok (.if_icmp .ne 7, 3) := by decide +kernel
theorem dX6_step_128 : decode cX6_step 128 = .ok (.iconst 1, 1) := by decide +kernel
theorem dX6_step_129 : decode cX6_step 129 = .ok (.goto 4, 3) := by decide +kernel
theorem dX6_step_132 : decode cX6_step 132 = .ok (.iconst 2, 1) := by decide +kernel
theorem dX6_step_133 : decode cX6_step 133 = .ok (.istore 8, 2) := by decide +kernel
theorem dX6_step_135 : decode cX6_step 135 = .ok (.iload 7, 2) := by decide +kernel
theorem dX6_step_137 : decode cX6_step 137 = .ok (.iload_n 3, 1) := by decide +kernel
theorem dX6_step_138 : decode cX6_step 138 = .ok (.if_icmp .ne 6, 3) := by decide +kernel
theorem dX6_step_141 : decode cX6_step 141 = .ok (.iload 8, 2) := by decide +kernel
theorem dX6_step_143 : decode cX6_step 143 = .ok (.ireturn, 1) := by decide +kernel
theorem dX6_step_144 : decode cX6_step 144 = .ok (.iload 5, 2) := by decide +kernel
theorem dX6_step_146 : decode cX6_step 146 = .ok (.iload 8, 2) := by decide +kernel
theorem dX6_step_148 : decode cX6_step 148 = .ok (.iconst 2, 1) := by decide +kernel
theorem dX6_step_149 : decode cX6_step 149 = .ok (.if_icmp .ne 7, 3) := by decide +kernel
theorem dX6_step_152 : decode cX6_step 152 = .ok (.iconst 0, 1) := by decide +kernel
theorem dX6_step_153 : decode cX6_step 153 = .ok (.goto 4, 3) := by decide +kernel
theorem dX6_step_156 : decode cX6_step 156 = .ok (.iconst 1, 1) := by decide +kernel
theorem dX6_step_157 : decode cX6_step 157 = .ok (.iadd, 1) := by decide +kernel
theorem dX6_step_158 : decode cX6_step 158 = .ok (.istore 5, 2) := by decide +kernel
theorem dX6_step_160 : decode cX6_step 160 = .ok (.iload 6, 2) := by decide +kernel
theorem dX6_step_162 : decode cX6_step 162 = .ok (.iload 8, 2) := by decide +kernel
theorem dX6_step_164 : decode cX6_step 164 = .ok (.iconst 1, 1) := by decide +kernel
theorem dX6_step_165 : decode cX6_step 165 = .ok (.if_icmp .ne 7, 3) := by decide +kernel
theorem dX6_step_168 : decode cX6_step 168 = .ok (.iconst 0, 1) := by decide +kernel
theorem dX6_step_169 : decode cX6_step 169 = .ok (.goto 4, 3) := by decide +kernel
theorem dX6_step_172 : decode cX6_step 172 = .ok (.iconst 1, 1) := by decide +kernel
theorem dX6_step_173 : decode cX6_step 173 = .ok (.iadd, 1) := by decide +kernel
theorem dX6_step_174 : decode cX6_step 174 = .ok (.istore 6, 2) := by decide +kernel
theorem dX6_step_176 : decode cX6_step 176 = .ok (.iload 4, 2) := by decide +kernel
theorem dX6_step_178 : decode cX6_step 178 = .ok (.iload 8, 2) := by decide +kernel
theorem dX6_step_180 : decode cX6_step 180 = .ok (.ifCond .ne 7, 3) := by decide +kernel
theorem dX6_step_183 : decode cX6_step 183 = .ok (.iconst 0, 1) := by decide +kernel
theorem dX6_step_184 : decode cX6_step 184 = .ok (.goto 4, 3) := by decide +kernel
theorem dX6_step_187 : decode cX6_step 187 = .ok (.iconst 1, 1) := by decide +kernel
theorem dX6_step_188 : decode cX6_step 188 = .ok (.isub, 1) := by decide +kernel
theorem dX6_step_189 : decode cX6_step 189 = .ok (.istore 4, 2) := by decide +kernel
theorem dX6_step_191 : decode cX6_step 191 = .ok (.iinc 7 1, 3) := by decide +kernel
theorem dX6_step_194 : decode cX6_step 194 = .ok (.goto (-160), 3) := by decide +kernel
theorem dX6_step_197 : decode cX6_step 197 = .ok (.iconst (-1), 1) := by decide +kernel
theorem dX6_step_198 : decode cX6_step 198 = .ok (.ireturn, 1) := by decide +kernel
theorem dX6_condition_0 : decode cX6_condition 0 = .ok (.iload_n 1, 1) := by decide +kernel
theorem dX6_condition_1 : decode cX6_condition 1 = .ok (.iconst 0, 1) := by decide +kernel
theorem dX6_condition_2 : decode cX6_condition 2 = .ok (.bipush 6, 2) := by decide +kernel
theorem dX6_condition_4 : decode cX6_condition 4 = .ok (.invokestatic 62, 3) := by decide +kernel
theorem dX6_condition_7 : decode cX6_condition 7 = .ok (.ifCond .eq 30, 3) := by decide +kernel
theorem dX6_condition_10 : decode cX6_condition 10 = .ok (.iload_n 2, 1) := by decide +kernel
theorem dX6_condition_11 : decode cX6_condition 11 = .ok (.invokestatic 70, 3) := by decide +kernel
theorem dX6_condition_14 : decode cX6_condition 14 = .ok (.ifCond .eq 23, 3) := by decide +kernel
theorem dX6_condition_17 : decode cX6_condition 17 = .ok (.iload_n 3, 1) := by decide +kernel
theorem dX6_condition_18 : decode cX6_condition 18 = .ok (.iconst 0, 1) := by decide +kernel
theorem dX6_condition_19 : decode cX6_condition 19 = .ok (.iload_n 1, 1) := by decide +kernel
theorem dX6_condition_20 : decode cX6_condition 20 = .ok (.iconst 1, 1) := by decide +kernel
theorem dX6_condition_21 : decode cX6_condition 21 = .ok (.if_icmp .ne 8, 3) := by decide +kernel
theorem dX6_condition_24 : decode cX6_condition 24 = .ok (.bipush 40, 2) := by decide +kernel
theorem dX6_condition_26 : decode cX6_condition 26 = .ok (.goto 5, 3) := by decide +kernel
theorem dX6_condition_29 : decode cX6_condition 29 = .ok (.bipush 99, 2) := by decide +kernel
theorem dX6_condition_31 : decode cX6_condition 31 = .ok (.invokestatic 62, 3) := by decide +kernel
theorem dX6_condition_34 : decode cX6_condition 34 = .ok (.ifCond .ne 6, 3) := by decide +kernel
theorem dX6_condition_37 : decode cX6_condition 37 = .ok (.bipush (-2), 2) := by decide +kernel
theorem dX6_condition_39 : decode cX6_condition 39 = .ok (.ireturn, 1) := by decide +kernel
theorem dX6_condition_40 : decode cX6_condition 40 = .ok (.aload_n 0, 1) := by decide +kernel
theorem dX6_condition_41 : decode cX6_condition 41 = .ok (.getfield 81, 3) := by decide +kernel
theorem dX6_condition_44 : decode cX6_condition 44 = .ok (.bipush 12, 2) := by decide +kernel
theorem dX6_condition_46 : decode cX6_condition 46 = .ok (.if_icmp .ne 6, 3) := by decide +kernel
theorem dX6_condition_49 : decode cX6_condition 49 = .ok (.bipush (-4), 2) := by decide +kernel
theorem dX6_condition_51 : decode cX6_condition 51 = .ok (.ireturn, 1) := by decide +kernel
theorem dX6_condition_52 : decode cX6_condition 52 = .ok (.aload_n 0, 1) := by decide +kernel
theorem dX6_condition_53 : decode cX6_condition 53 = .ok (.getfield 22, 3) := by decide +kernel
theorem dX6_condition_56 : decode cX6_condition 56 = .ok (.aload_n 0, 1) := by decide +kernel
theorem dX6_condition_57 : decode cX6_condition 57 = .ok (.getfield 81, 3) := by decide +kernel
theorem dX6_condition_60 : decode cX6_condition 60 = .ok (.iload_n 1, 1) := by decide +kernel
theorem dX6_condition_61 : decode cX6_condition 61 = .ok (.iastore, 1) := by decide +kernel
theorem dX6_condition_62 : decode cX6_condition 62 = .ok (.aload_n 0, 1) := by decide +kernel
theorem dX6_condition_63 : decode cX6_condition 63 = .ok (.getfield 25, 3) := by decide +kernel
theorem dX6_condition_66 : decode cX6_condition 66 = .ok (.aload_n 0, 1) := by decide +kernel
theorem dX6_condition_67 : decode cX6_condition 67 = .ok (.getfield 81, 3) := by decide +kernel
theorem dX6_condition_70 : decode cX6_condition 70 = .ok (.iload_n 2, 1) := by decide +kernel
theorem dX6_condition_71 : decode cX6_condition 71 = .ok (.iastore, 1) := by decide +kernel
theorem dX6_condition_72 : decode cX6_condition 72 = .ok (.aload_n 0, 1) := by decide +kernel
theorem dX6_condition_73 : decode cX6_condition 73 = .ok (.getfield 28, 3) := by decide +kernel
theorem dX6_condition_76 : decode cX6_condition 76 = .ok (.aload_n 0, 1) := by decide +kernel
theorem dX6_condition_77 : decode cX6_condition 77 = .ok (.getfield 81, 3) := by decide +kernel
theorem dX6_condition_80 : decode cX6_condition 80 = .ok (.iload_n 3, 1) := by decide +kernel
theorem dX6_condition_81 : decode cX6_condition 81 = .ok (.iastore, 1) := by decide +kernel
theorem dX6_condition_82 : decode cX6_condition 82 = .ok (.aload_n 0, 1) := by decide +kernel
theorem dX6_condition_83 : decode cX6_condition 83 = .ok (.dup, 1) := by decide +kernel
theorem dX6_condition_84 : decode cX6_condition 84 = .ok (.getfield 81, 3) := by decide +kernel
theorem dX6_condition_87 : decode cX6_condition 87 = .ok (.iconst 1, 1) := by decide +kernel
theorem dX6_condition_88 : decode cX6_condition 88 = .ok (.iadd, 1) := by decide +kernel
theorem dX6_condition_89 : decode cX6_condition 89 = .ok (.putfield 81, 3) := by decide +kernel
theorem dX6_condition_92 : decode cX6_condition 92 = .ok (.aload_n 0, 1) := by decide +kernel
theorem dX6_condition_93 : decode cX6_condition 93 = .ok (.getfield 81, 3) := by decide +kernel
theorem dX6_condition_96 : decode cX6_condition 96 = .ok (.iconst 1, 1) := by decide +kernel
theorem dX6_condition_97 : decode cX6_condition 97 = .ok (.isub, 1) := by decide +kernel
theorem dX6_condition_98 : decode cX6_condition 98 = .ok (.ireturn, 1) := by decide +kernel
theorem dX6_clear_0 : decode cX6_clear 0 = .ok (.aload_n 0, 1) := by decide +kernel
theorem dX6_clear_1 : decode cX6_clear 1 = .ok (.getfield 81, 3) := by decide +kernel
theorem dX6_clear_4 : decode cX6_clear 4 = .ok (.istore_n 1, 1) := by decide +kernel
theorem dX6_clear_5 : decode cX6_clear 5 = .ok (.aload_n 0, 1) := by decide +kernel
theorem dX6_clear_6 : decode cX6_clear 6 = .ok (.iconst 0, 1) := by decide +kernel
theorem dX6_clear_7 : decode cX6_clear 7 = .ok (.putfield 81, 3) := by decide +kernel
theorem dX6_clear_10 : decode cX6_clear 10 = .ok (.iload_n 1, 1) := by decide +kernel
theorem dX6_clear_11 : decode cX6_clear 11 = .ok (.ireturn, 1) := by decide +kernel
theorem dX6_keeps_0 : decode cX6_keeps 0 = .ok (.aload_n 0, 1) := by decide +kernel
theorem dX6_keeps_1 : decode cX6_keeps 1 = .ok (.getfield 25, 3) := by decide +kernel
theorem dX6_keeps_4 : decode cX6_keeps 4 = .ok (.iload_n 2, 1) := by decide +kernel
theorem dX6_keeps_5 : decode cX6_keeps 5 = .ok (.iaload, 1) := by decide +kernel
theorem dX6_keeps_6 : decode cX6_keeps 6 = .ok (.istore_n 3, 1) := by decide +kernel
theorem dX6_keeps_7 : decode cX6_keeps 7 = .ok (.aload_n 0, 1) := by decide +kernel
theorem dX6_keeps_8 : decode cX6_keeps 8 = .ok (.getfield 28, 3) := by decide +kernel
theorem dX6_keeps_11 : decode cX6_keeps 11 = .ok (.iload_n 2, 1) := by decide +kernel
theorem dX6_keeps_12 : decode cX6_keeps 12 = .ok (.iaload, 1) := by decide +kernel
theorem dX6_keeps_13 : decode cX6_keeps 13 = .ok (.istore 4, 2) := by decide +kernel
theorem dX6_keeps_15 : decode cX6_keeps 15 = .ok (.iconst 0, 1) := by decide +kernel
theorem dX6_keeps_16 : decode cX6_keeps 16 = .ok (.istore 5, 2) := by decide +kernel
theorem dX6_keeps_18 : decode cX6_keeps 18 = .ok (.iconst 0, 1) := by decide +kernel
theorem dX6_keeps_19 : decode cX6_keeps 19 = .ok (.istore 6, 2) := by decide +kernel
theorem dX6_keeps_21 : decode cX6_keeps 21 = .ok (.iconst 1, 1) := by decide +kernel
theorem dX6_keeps_22 : decode cX6_keeps 22 = .ok (.istore 7, 2) := by decide +kernel
theorem dX6_keeps_24 : decode cX6_keeps 24 = .ok (.iconst 0, 1) := by decide +kernel
theorem dX6_keeps_25 : decode cX6_keeps 25 = .ok (.istore 8, 2) := by decide +kernel
theorem dX6_keeps_27 : decode cX6_keeps 27 = .ok (.iload 8, 2) := by decide +kernel
theorem dX6_keeps_29 : decode cX6_keeps 29 = .ok (.aload_n 0, 1) := by decide +kernel
theorem dX6_keeps_30 : decode cX6_keeps 30 = .ok (.getfield 13, 3) := by decide +kernel
theorem dX6_keeps_33 : decode cX6_keeps 33 = .ok (.iload_n 1, 1) := by decide +kernel
theorem dX6_keeps_34 : decode cX6_keeps 34 = .ok (.iaload, 1) := by decide +kernel
theorem dX6_keeps_35 : decode cX6_keeps 35 = .ok (.if_icmp .ge 159, 3) := by decide +kernel
theorem dX6_keeps_38 : decode cX6_keeps 38 = .ok (.aload_n 0, 1) := by decide +kernel
theorem dX6_keeps_39 : decode cX6_keeps 39 = .ok (.getfield 7, 3) := by decide +kernel
theorem dX6_keeps_42 : decode cX6_keeps 42 = .ok (.bipush 40, 2) := by decide +kernel
theorem dX6_keeps_44 : decode cX6_keeps 44 = .ok (.iload_n 1, 1) := by decide +kernel
theorem dX6_keeps_45 : decode cX6_keeps 45 = .ok (.imul, 1) := by decide +kernel
theorem dX6_keeps_46 : decode cX6_keeps 46 = .ok (.iload 8, 2) := by decide +kernel
theorem dX6_keeps_48 : decode cX6_keeps 48 = .ok (.iadd, 1) := by decide +kernel
theorem dX6_keeps_49 : decode cX6_keeps 49 = .ok (.iaload, 1) := by decide +kernel
theorem dX6_keeps_50 : decode cX6_keeps 50 = .ok (.istore 9, 2) := by decide +kernel
theorem dX6_keeps_52 : decode cX6_keeps 52 = .ok (.iload 9, 2) := by decide +kernel
theorem dX6_keeps_54 : decode cX6_keeps 54 = .ok (.iload 4, 2) := by decide +kernel
theorem dX6_keeps_56 : decode cX6_keeps 56 = .ok (.if_icmp .ne 31, 3) := by decide +kernel
theorem dX6_keeps_59 : decode cX6_keeps 59 = .ok (.iload 7, 2) := by decide +kernel
theorem dX6_keeps_61 : decode cX6_keeps 61 = .ok (.ifCond .eq 23, 3) := by decide +kernel
theorem dX6_keeps_64 : decode cX6_keeps 64 = .ok (.aload_n 0, 1) := by decide +kernel
theorem dX6_keeps_65 : decode cX6_keeps 65 = .ok (.getfield 22, 3) := by decide +kernel
theorem dX6_keeps_68 : decode cX6_keeps 68 = .ok (.iload_n 2, 1) := by decide +kernel
theorem dX6_keeps_69 : decode cX6_keeps 69 = .ok (.iaload, 1) := by decide +kernel
theorem dX6_keeps_70 : decode cX6_keeps 70 = .ok (.bipush 6, 2) := by decide +kernel
theorem dX6_keeps_72 : decode cX6_keeps 72 = .ok (.if_icmp .ne 8, 3) := by decide +kernel
theorem dX6_keeps_75 : decode cX6_keeps 75 = .ok (.iload 5, 2) := by decide +kernel
theorem dX6_keeps_77 : decode cX6_keeps 77 = .ok (.ifCond .ne 7, 3) := by decide +kernel
theorem dX6_keeps_80 : decode cX6_keeps 80 = .ok (.iconst 1, 1) := by decide +kernel
theorem dX6_keeps_81 : decode cX6_keeps 81 = .ok (.goto 4, 3) := by decide +kernel
theorem dX6_keeps_84 : decode cX6_keeps 84 = .ok (.iconst 0, 1) := by decide +kernel
theorem dX6_keeps_85 : decode cX6_keeps 85 = .ok (.istore 7, 2) := by decide +kernel
theorem dX6_keeps_87 : decode cX6_keeps 87 = .ok (.iload 9, 2) := by decide +kernel
theorem dX6_keeps_89 : decode cX6_keeps 89 = .ok (.iload_n 3, 1) := by decide +kernel
theorem dX6_keeps_90 : decode cX6_keeps 90 = .ok (.if_icmp .ne 79, 3) := by decide +kernel
theorem dX6_keeps_93 : decode cX6_keeps 93 = .ok (.iload 8, 2) := by decide +kernel
theorem dX6_keeps_95 : decode cX6_keeps 95 = .ok (.ifCond .le 26, 3) := by decide +kernel
theorem dX6_keeps_98 : decode cX6_keeps 98 = .ok (.aload_n 0, 1) := by decide +kernel
theorem dX6_keeps_99 : decode cX6_keeps 99 = .ok (.getfield 7, 3) := by decide +kernel
theorem dX6_keeps_102 : decode cX6_keeps 102 = .ok (.bipush 40, 2) := by decide +kernel
theorem dX6_keeps_104 : decode cX6_keeps 104 = .ok (.iload_n 1, 1) := by decide +kernel
theorem dX6_keeps_105 : decode cX6_keeps 105 = .ok (.imul, 1) := by decide +kernel
theorem dX6_keeps_106 : decode cX6_keeps 106 = .ok (.iload 8, 2) := by decide +kernel
theorem dX6_keeps_108 : decode cX6_keeps 108 = .ok (.iadd, 1) := by decide +kernel
theorem dX6_keeps_109 : decode cX6_keeps 109 = .ok (.iconst 1, 1) := by decide +kernel
theorem dX6_keeps_110 : decode cX6_keeps 110 = .ok (.isub, 1) := by decide +kernel
theorem dX6_keeps_111 : decode cX6_keeps 111 = .ok (.iaload, 1) := by decide +kernel
theorem dX6_keeps_112 : decode cX6_keeps 112 = .ok (.iload 4, 2) := by decide +kernel
theorem dX6_keeps_114 : decode cX6_keeps 114 = .ok (.if_icmp .ne 7, 3) := by decide +kernel
theorem dX6_keeps_117 : decode cX6_keeps 117 = .ok (.iconst 1, 1) := by decide +kernel
theorem dX6_keeps_118 : decode cX6_keeps 118 = .ok (.goto 4, 3) := by decide +kernel
theorem dX6_keeps_121 : decode cX6_keeps 121 = .ok (.iconst 0, 1) := by decide +kernel
theorem dX6_keeps_122 : decode cX6_keeps 122 = .ok (.istore 10, 2) := by decide +kernel
theorem dX6_keeps_124 : decode cX6_keeps 124 = .ok (.iload 7, 2) := by decide +kernel
theorem dX6_keeps_126 : decode cX6_keeps 126 = .ok (.ifCond .eq 37, 3) := by decide +kernel
theorem dX6_keeps_129 : decode cX6_keeps 129 = .ok (.aload_n 0, 1) := by decide +kernel
theorem dX6_keeps_130 : decode cX6_keeps 130 = .ok (.getfield 22, 3) := by decide +kernel
theorem dX6_keeps_133 : decode cX6_keeps 133 = .ok (.iload_n 2, 1) := by decide +kernel
theorem dX6_keeps_134 : decode cX6_keeps 134 = .ok (.iaload, 1) := by decide +kernel
theorem dX6_keeps_135 : decode cX6_keeps 135 = .ok (.iconst 2, 1) := by decide +kernel
theorem dX6_keeps_136 : decode cX6_keeps 136 = .ok (.if_icmp .ne 8, 3) := by decide +kernel
theorem dX6_keeps_139 : decode cX6_keeps 139 = .ok (.iload 6, 2) := by decide +kernel
theorem dX6_keeps_141 : decode cX6_keeps 141 = .ok (.ifCond .eq 22, 3) := by decide +kernel
theorem dX6_keeps_144 : decode cX6_keeps 144 = .ok (.aload_n 0, 1) := by decide +kernel
theorem dX6_keeps_145 : decode cX6_keeps 145 = .ok (.getfield 22, 3) := by decide +kernel
theorem dX6_keeps_148 : decode cX6_keeps 148 = .ok (.iload_n 2, 1) := by decide +kernel
theorem dX6_keeps_149 : decode cX6_keeps 149 = .ok (.iaload, 1) := by decide +kernel
theorem dX6_keeps_150 : decode cX6_keeps 150 = .ok (.iconst 5, 1) := by decide +kernel
theorem dX6_keeps_151 : decode cX6_keeps 151 = .ok (.if_icmp .ne 8, 3) := by decide +kernel
theorem dX6_keeps_154 : decode cX6_keeps 154 = .ok (.iload 10, 2) := by decide +kernel
theorem dX6_keeps_156 : decode cX6_keeps 156 = .ok (.ifCond .eq 7, 3) := by decide +kernel
theorem dX6_keeps_159 : decode cX6_keeps 159 = .ok (.iconst 1, 1) := by decide +kernel
theorem dX6_keeps_160 : decode cX6_keeps 160 = .ok (.goto 4, 3) := by decide +kernel
theorem dX6_keeps_163 : decode cX6_keeps 163 = .ok (.iconst 0, 1) := by decide +kernel
theorem dX6_keeps_164 : decode cX6_keeps 164 = .ok (.istore 7, 2) := by decide +kernel
theorem dX6_keeps_166 : decode cX6_keeps 166 = .ok (.iinc 5 1, 3) := by decide +kernel
theorem dX6_keeps_169 : decode cX6_keeps 169 = .ok (.iload 6, 2) := by decide +kernel
theorem dX6_keeps_171 : decode cX6_keeps 171 = .ok (.ifCond .ne 10, 3) := by decide +kernel
theorem dX6_keeps_174 : decode cX6_keeps 174 = .ok (.iload 9, 2) := by decide +kernel
theorem dX6_keeps_176 : decode cX6_keeps 176 = .ok (.iload 4, 2) := by decide +kernel
theorem dX6_keeps_178 : decode cX6_keeps 178 = .ok (.if_icmp .ne 7, 3) := by decide +kernel
theorem dX6_keeps_181 : decode cX6_keeps 181 = .ok (.iconst 1, 1) := by decide +kernel
theorem dX6_keeps_182 : decode cX6_keeps 182 = .ok (.goto 4, 3) := by decide +kernel
theorem dX6_keeps_185 : decode cX6_keeps 185 = .ok (.iconst 0, 1) := by decide +kernel
theorem dX6_keeps_186 : decode cX6_keeps 186 = .ok (.istore 6, 2) := by decide +kernel
theorem dX6_keeps_188 : decode cX6_keeps 188 = .ok (.iinc 8 1, 3) := by decide +kernel
theorem dX6_keeps_191 : decode cX6_keeps 191 = .ok (.goto (-164), 3) := by decide +kernel
theorem dX6_keeps_194 : decode cX6_keeps 194 = .ok (.aload_n 0, 1) := by decide +kernel
theorem dX6_keeps_195 : decode cX6_keeps 195 = .ok (.getfield 22, 3) := by decide +kernel
theorem dX6_keeps_198 : decode cX6_keeps 198 = .ok (.iload_n 2, 1) := by decide +kernel
theorem dX6_keeps_199 : decode cX6_keeps 199 = .ok (.iaload, 1) := by decide +kernel
theorem dX6_keeps_200 : decode cX6_keeps 200 = .ok (.tableswitch 87 0 4 #[36, 47, 87, 60, 76], 36) := by decide +kernel
theorem dX6_keeps_236 : decode cX6_keeps 236 = .ok (.iload 5, 2) := by decide +kernel
theorem dX6_keeps_238 : decode cX6_keeps 238 = .ok (.ifCond .ne 7, 3) := by decide +kernel
theorem dX6_keeps_241 : decode cX6_keeps 241 = .ok (.iconst 1, 1) := by decide +kernel
theorem dX6_keeps_242 : decode cX6_keeps 242 = .ok (.goto 4, 3) := by decide +kernel
theorem dX6_keeps_245 : decode cX6_keeps 245 = .ok (.iconst 0, 1) := by decide +kernel
theorem dX6_keeps_246 : decode cX6_keeps 246 = .ok (.ireturn, 1) := by decide +kernel
theorem dX6_keeps_247 : decode cX6_keeps 247 = .ok (.iload 5, 2) := by decide +kernel
theorem dX6_keeps_249 : decode cX6_keeps 249 = .ok (.iload 4, 2) := by decide +kernel
theorem dX6_keeps_251 : decode cX6_keeps 251 = .ok (.if_icmp .gt 7, 3) := by decide +kernel
theorem dX6_keeps_254 : decode cX6_keeps 254 = .ok (.iconst 1, 1) := by decide +kernel
theorem dX6_keeps_255 : decode cX6_keeps 255 = .ok (.goto 4, 3) := by decide +kernel
theorem dX6_keeps_258 : decode cX6_keeps 258 = .ok (.iconst 0, 1) := by decide +kernel
theorem dX6_keeps_259 : decode cX6_keeps 259 = .ok (.ireturn, 1) := by decide +kernel
theorem dX6_keeps_260 : decode cX6_keeps 260 = .ok (.iload 5, 2) := by decide +kernel
theorem dX6_keeps_262 : decode cX6_keeps 262 = .ok (.ifCond .eq 8, 3) := by decide +kernel
theorem dX6_keeps_265 : decode cX6_keeps 265 = .ok (.iload 6, 2) := by decide +kernel
theorem dX6_keeps_267 : decode cX6_keeps 267 = .ok (.ifCond .ne 7, 3) := by decide +kernel
theorem dX6_keeps_270 : decode cX6_keeps 270 = .ok (.iconst 1, 1) := by decide +kernel
theorem dX6_keeps_271 : decode cX6_keeps 271 = .ok (.goto 4, 3) := by decide +kernel
theorem dX6_keeps_274 : decode cX6_keeps 274 = .ok (.iconst 0, 1) := by decide +kernel
theorem dX6_keeps_275 : decode cX6_keeps 275 = .ok (.ireturn, 1) := by decide +kernel
theorem dX6_keeps_276 : decode cX6_keeps 276 = .ok (.iload 5, 2) := by decide +kernel
theorem dX6_keeps_278 : decode cX6_keeps 278 = .ok (.ifCond .le 7, 3) := by decide +kernel
theorem dX6_keeps_281 : decode cX6_keeps 281 = .ok (.iconst 1, 1) := by decide +kernel
theorem dX6_keeps_282 : decode cX6_keeps 282 = .ok (.goto 4, 3) := by decide +kernel
theorem dX6_keeps_285 : decode cX6_keeps 285 = .ok (.iconst 0, 1) := by decide +kernel
theorem dX6_keeps_286 : decode cX6_keeps 286 = .ok (.ireturn, 1) := by decide +kernel
theorem dX6_keeps_287 : decode cX6_keeps 287 = .ok (.iload 7, 2) := by decide +kernel
theorem dX6_keeps_289 : decode cX6_keeps 289 = .ok (.ireturn, 1) := by decide +kernel
theorem dX6_breaks_0 : decode cX6_breaks 0 = .ok (.iload_n 1, 1) := by decide +kernel
theorem dX6_breaks_1 : decode cX6_breaks 1 = .ok (.invokestatic 66, 3) := by decide +kernel
theorem dX6_breaks_4 : decode cX6_breaks 4 = .ok (.ifCond .ne 6, 3) := by decide +kernel
theorem dX6_breaks_7 : decode cX6_breaks 7 = .ok (.bipush (-2), 2) := by decide +kernel
theorem dX6_breaks_9 : decode cX6_breaks 9 = .ok (.ireturn, 1) := by decide +kernel
theorem dX6_breaks_10 : decode cX6_breaks 10 = .ok (.iconst 0, 1) := by decide +kernel
theorem dX6_breaks_11 : decode cX6_breaks 11 = .ok (.istore_n 2, 1) := by decide +kernel
theorem dX6_breaks_12 : decode cX6_breaks 12 = .ok (.iload_n 2, 1) := by decide +kernel
theorem dX6_breaks_13 : decode cX6_breaks 13 = .ok (.aload_n 0, 1) := by decide +kernel
theorem dX6_breaks_14 : decode cX6_breaks 14 = .ok (.getfield 81, 3) := by decide +kernel
theorem dX6_breaks_17 : decode cX6_breaks 17 = .ok (.if_icmp .ge 20, 3) := by decide +kernel
theorem dX6_breaks_20 : decode cX6_breaks 20 = .ok (.aload_n 0, 1) := by decide +kernel
theorem dX6_breaks_21 : decode cX6_breaks 21 = .ok (.iload_n 1, 1) := by decide +kernel
theorem dX6_breaks_22 : decode cX6_breaks 22 = .ok (.iload_n 2, 1) := by decide +kernel
theorem dX6_breaks_23 : decode cX6_breaks 23 = .ok (.invokevirtual 85, 3) := by decide +kernel
theorem dX6_breaks_26 : decode cX6_breaks 26 = .ok (.ifCond .ne 5, 3) := by decide +kernel
theorem dX6_breaks_29 : decode cX6_breaks 29 = .ok (.iload_n 2, 1) := by decide +kernel
theorem dX6_breaks_30 : decode cX6_breaks 30 = .ok (.ireturn, 1) := by decide +kernel
theorem dX6_breaks_31 : decode cX6_breaks 31 = .ok (.iinc 2 1, 3) := by decide +kernel
theorem dX6_breaks_34 : decode cX6_breaks 34 = .ok (.goto (-22), 3) := by decide +kernel
theorem dX6_breaks_37 : decode cX6_breaks 37 = .ok (.iconst (-1), 1) := by decide +kernel
theorem dX6_breaks_38 : decode cX6_breaks 38 = .ok (.ireturn, 1) := by decide +kernel
theorem dX6_hear_0 : decode cX6_hear 0 = .ok (.iload_n 1, 1) := by decide +kernel
theorem dX6_hear_1 : decode cX6_hear 1 = .ok (.invokestatic 89, 3) := by decide +kernel
theorem dX6_hear_4 : decode cX6_hear 4 = .ok (.ifCond .eq 15, 3) := by decide +kernel
theorem dX6_hear_7 : decode cX6_hear 7 = .ok (.iload_n 2, 1) := by decide +kernel
theorem dX6_hear_8 : decode cX6_hear 8 = .ok (.iconst (-1), 1) := by decide +kernel
theorem dX6_hear_9 : decode cX6_hear 9 = .ok (.if_icmp .eq 13, 3) := by decide +kernel
theorem dX6_hear_12 : decode cX6_hear 12 = .ok (.iload_n 2, 1) := by decide +kernel
theorem dX6_hear_13 : decode cX6_hear 13 = .ok (.invokestatic 70, 3) := by decide +kernel
theorem dX6_hear_16 : decode cX6_hear 16 = .ok (.ifCond .ne 6, 3) := by decide +kernel
theorem dX6_hear_19 : decode cX6_hear 19 = .ok (.bipush (-2), 2) := by decide +kernel
theorem dX6_hear_21 : decode cX6_hear 21 = .ok (.ireturn, 1) := by decide +kernel
theorem dX6_hear_22 : decode cX6_hear 22 = .ok (.aload_n 0, 1) := by decide +kernel
theorem dX6_hear_23 : decode cX6_hear 23 = .ok (.getfield 19, 3) := by decide +kernel
theorem dX6_hear_26 : decode cX6_hear 26 = .ok (.iload_n 1, 1) := by decide +kernel
theorem dX6_hear_27 : decode cX6_hear 27 = .ok (.iaload, 1) := by decide +kernel
theorem dX6_hear_28 : decode cX6_hear 28 = .ok (.bipush 40, 2) := by decide +kernel
theorem dX6_hear_30 : decode cX6_hear 30 = .ok (.if_icmp .ne 6, 3) := by decide +kernel
theorem dX6_hear_33 : decode cX6_hear 33 = .ok (.bipush (-4), 2) := by decide +kernel
theorem dX6_hear_35 : decode cX6_hear 35 = .ok (.ireturn, 1) := by decide +kernel
theorem dX6_hear_36 : decode cX6_hear 36 = .ok (.aload_n 0, 1) := by decide +kernel
theorem dX6_hear_37 : decode cX6_hear 37 = .ok (.getfield 16, 3) := by decide +kernel
theorem dX6_hear_40 : decode cX6_hear 40 = .ok (.bipush 40, 2) := by decide +kernel
theorem dX6_hear_42 : decode cX6_hear 42 = .ok (.iload_n 1, 1) := by decide +kernel
theorem dX6_hear_43 : decode cX6_hear 43 = .ok (.imul, 1) := by decide +kernel
theorem dX6_hear_44 : decode cX6_hear 44 = .ok (.aload_n 0, 1) := by decide +kernel
theorem dX6_hear_45 : decode cX6_hear 45 = .ok (.getfield 19, 3) := by decide +kernel
theorem dX6_hear_48 : decode cX6_hear 48 = .ok (.iload_n 1, 1) := by decide +kernel
theorem dX6_hear_49 : decode cX6_hear 49 = .ok (.iaload, 1) := by decide +kernel
theorem dX6_hear_50 : decode cX6_hear 50 = .ok (.iadd, 1) := by decide +kernel
theorem dX6_hear_51 : decode cX6_hear 51 = .ok (.iload_n 2, 1) := by decide +kernel
theorem dX6_hear_52 : decode cX6_hear 52 = .ok (.iastore, 1) := by decide +kernel
theorem dX6_hear_53 : decode cX6_hear 53 = .ok (.aload_n 0, 1) := by decide +kernel
theorem dX6_hear_54 : decode cX6_hear 54 = .ok (.getfield 19, 3) := by decide +kernel
theorem dX6_hear_57 : decode cX6_hear 57 = .ok (.iload_n 1, 1) := by decide +kernel
theorem dX6_hear_58 : decode cX6_hear 58 = .ok (.dup2, 1) := by decide +kernel
theorem dX6_hear_59 : decode cX6_hear 59 = .ok (.iaload, 1) := by decide +kernel
theorem dX6_hear_60 : decode cX6_hear 60 = .ok (.iconst 1, 1) := by decide +kernel
theorem dX6_hear_61 : decode cX6_hear 61 = .ok (.iadd, 1) := by decide +kernel
theorem dX6_hear_62 : decode cX6_hear 62 = .ok (.iastore, 1) := by decide +kernel
theorem dX6_hear_63 : decode cX6_hear 63 = .ok (.aload_n 0, 1) := by decide +kernel
theorem dX6_hear_64 : decode cX6_hear 64 = .ok (.getfield 19, 3) := by decide +kernel
theorem dX6_hear_67 : decode cX6_hear 67 = .ok (.iload_n 1, 1) := by decide +kernel
theorem dX6_hear_68 : decode cX6_hear 68 = .ok (.iaload, 1) := by decide +kernel
theorem dX6_hear_69 : decode cX6_hear 69 = .ok (.ireturn, 1) := by decide +kernel
theorem dX6_forget_0 : decode cX6_forget 0 = .ok (.iload_n 1, 1) := by decide +kernel
theorem dX6_forget_1 : decode cX6_forget 1 = .ok (.invokestatic 89, 3) := by decide +kernel
theorem dX6_forget_4 : decode cX6_forget 4 = .ok (.ifCond .ne 6, 3) := by decide +kernel
theorem dX6_forget_7 : decode cX6_forget 7 = .ok (.bipush (-2), 2) := by decide +kernel
theorem dX6_forget_9 : decode cX6_forget 9 = .ok (.ireturn, 1) := by decide +kernel
theorem dX6_forget_10 : decode cX6_forget 10 = .ok (.aload_n 0, 1) := by decide +kernel
theorem dX6_forget_11 : decode cX6_forget 11 = .ok (.getfield 19, 3) := by decide +kernel
theorem dX6_forget_14 : decode cX6_forget 14 = .ok (.iload_n 1, 1) := by decide +kernel
theorem dX6_forget_15 : decode cX6_forget 15 = .ok (.iaload, 1) := by decide +kernel
theorem dX6_forget_16 : decode cX6_forget 16 = .ok (.istore_n 2, 1) := by decide +kernel
theorem dX6_forget_17 : decode cX6_forget 17 = .ok (.aload_n 0, 1) := by decide +kernel
theorem dX6_forget_18 : decode cX6_forget 18 = .ok (.getfield 19, 3) := by decide +kernel
theorem dX6_forget_21 : decode cX6_forget 21 = .ok (.iload_n 1, 1) := by decide +kernel
theorem dX6_forget_22 : decode cX6_forget 22 = .ok (.iconst 0, 1) := by decide +kernel
theorem dX6_forget_23 : decode cX6_forget 23 = .ok (.iastore, 1) := by decide +kernel
theorem dX6_forget_24 : decode cX6_forget 24 = .ok (.iload_n 2, 1) := by decide +kernel
theorem dX6_forget_25 : decode cX6_forget 25 = .ok (.ireturn, 1) := by decide +kernel
theorem dX6_heard_0 : decode cX6_heard 0 = .ok (.iload_n 1, 1) := by decide +kernel
theorem dX6_heard_1 : decode cX6_heard 1 = .ok (.invokestatic 89, 3) := by decide +kernel
theorem dX6_heard_4 : decode cX6_heard 4 = .ok (.ifCond .eq 33, 3) := by decide +kernel
theorem dX6_heard_7 : decode cX6_heard 7 = .ok (.iload_n 2, 1) := by decide +kernel
theorem dX6_heard_8 : decode cX6_heard 8 = .ok (.iconst 0, 1) := by decide +kernel
theorem dX6_heard_9 : decode cX6_heard 9 = .ok (.aload_n 0, 1) := by decide +kernel
theorem dX6_heard_10 : decode cX6_heard 10 = .ok (.getfield 19, 3) := by decide +kernel
theorem dX6_heard_13 : decode cX6_heard 13 = .ok (.iload_n 1, 1) := by decide +kernel
theorem dX6_heard_14 : decode cX6_heard 14 = .ok (.iaload, 1) := by decide +kernel
theorem dX6_heard_15 : decode cX6_heard 15 = .ok (.iconst 1, 1) := by decide +kernel
theorem dX6_heard_16 : decode cX6_heard 16 = .ok (.isub, 1) := by decide +kernel
theorem dX6_heard_17 : decode cX6_heard 17 = .ok (.invokestatic 62, 3) := by decide +kernel
theorem dX6_heard_20 : decode cX6_heard 20 = .ok (.ifCond .eq 17, 3) := by decide +kernel
theorem dX6_heard_23 : decode cX6_heard 23 = .ok (.aload_n 0, 1) := by decide +kernel
theorem dX6_heard_24 : decode cX6_heard 24 = .ok (.getfield 16, 3) := by decide +kernel
theorem dX6_heard_27 : decode cX6_heard 27 = .ok (.bipush 40, 2) := by decide +kernel
theorem dX6_heard_29 : decode cX6_heard 29 = .ok (.iload_n 1, 1) := by decide +kernel
theorem dX6_heard_30 : decode cX6_heard 30 = .ok (.imul, 1) := by decide +kernel
theorem dX6_heard_31 : decode cX6_heard 31 = .ok (.iload_n 2, 1) := by decide +kernel
theorem dX6_heard_32 : decode cX6_heard 32 = .ok (.iadd, 1) := by decide +kernel
theorem dX6_heard_33 : decode cX6_heard 33 = .ok (.iaload, 1) := by decide +kernel
theorem dX6_heard_34 : decode cX6_heard 34 = .ok (.goto 5, 3) := by decide +kernel
theorem dX6_heard_37 : decode cX6_heard 37 = .ok (.bipush (-2), 2) := by decide +kernel
theorem dX6_heard_39 : decode cX6_heard 39 = .ok (.ireturn, 1) := by decide +kernel
theorem dX6_judged_0 : decode cX6_judged 0 = .ok (.aload_n 0, 1) := by decide +kernel
theorem dX6_judged_1 : decode cX6_judged 1 = .ok (.getfield 25, 3) := by decide +kernel
theorem dX6_judged_4 : decode cX6_judged 4 = .ok (.iload_n 2, 1) := by decide +kernel
theorem dX6_judged_5 : decode cX6_judged 5 = .ok (.iaload, 1) := by decide +kernel
theorem dX6_judged_6 : decode cX6_judged 6 = .ok (.istore_n 3, 1) := by decide +kernel
theorem dX6_judged_7 : decode cX6_judged 7 = .ok (.aload_n 0, 1) := by decide +kernel
theorem dX6_judged_8 : decode cX6_judged 8 = .ok (.getfield 28, 3) := by decide +kernel
theorem dX6_judged_11 : decode cX6_judged 11 = .ok (.iload_n 2, 1) := by decide +kernel
theorem dX6_judged_12 : decode cX6_judged 12 = .ok (.iaload, 1) := by decide +kernel
theorem dX6_judged_13 : decode cX6_judged 13 = .ok (.istore 4, 2) := by decide +kernel
theorem dX6_judged_15 : decode cX6_judged 15 = .ok (.iconst 0, 1) := by decide +kernel
theorem dX6_judged_16 : decode cX6_judged 16 = .ok (.istore 5, 2) := by decide +kernel
theorem dX6_judged_18 : decode cX6_judged 18 = .ok (.iconst 0, 1) := by decide +kernel
theorem dX6_judged_19 : decode cX6_judged 19 = .ok (.istore 6, 2) := by decide +kernel
theorem dX6_judged_21 : decode cX6_judged 21 = .ok (.iconst 0, 1) := by decide +kernel
theorem dX6_judged_22 : decode cX6_judged 22 = .ok (.istore 7, 2) := by decide +kernel
theorem dX6_judged_24 : decode cX6_judged 24 = .ok (.iconst 1, 1) := by decide +kernel
theorem dX6_judged_25 : decode cX6_judged 25 = .ok (.istore 8, 2) := by decide +kernel
theorem dX6_judged_27 : decode cX6_judged 27 = .ok (.iconst 1, 1) := by decide +kernel
theorem dX6_judged_28 : decode cX6_judged 28 = .ok (.istore 9, 2) := by decide +kernel
theorem dX6_judged_30 : decode cX6_judged 30 = .ok (.iconst 0, 1) := by decide +kernel
theorem dX6_judged_31 : decode cX6_judged 31 = .ok (.istore 10, 2) := by decide +kernel
theorem dX6_judged_33 : decode cX6_judged 33 = .ok (.iconst 0, 1) := by decide +kernel
theorem dX6_judged_34 : decode cX6_judged 34 = .ok (.istore 11, 2) := by decide +kernel
theorem dX6_judged_36 : decode cX6_judged 36 = .ok (.iload 11, 2) := by decide +kernel
theorem dX6_judged_38 : decode cX6_judged 38 = .ok (.aload_n 0, 1) := by decide +kernel
theorem dX6_judged_39 : decode cX6_judged 39 = .ok (.getfield 19, 3) := by decide +kernel
theorem dX6_judged_42 : decode cX6_judged 42 = .ok (.iload_n 1, 1) := by decide +kernel
theorem dX6_judged_43 : decode cX6_judged 43 = .ok (.iaload, 1) := by decide +kernel
theorem dX6_judged_44 : decode cX6_judged 44 = .ok (.if_icmp .ge 242, 3) := by decide +kernel
theorem dX6_judged_47 : decode cX6_judged 47 = .ok (.aload_n 0, 1) := by decide +kernel
theorem dX6_judged_48 : decode cX6_judged 48 = .ok (.getfield 16, 3) := by decide +kernel
theorem dX6_judged_51 : decode cX6_judged 51 = .ok (.bipush 40, 2) := by decide +kernel
theorem dX6_judged_53 : decode cX6_judged 53 = .ok (.iload_n 1, 1) := by decide +kernel
theorem dX6_judged_54 : decode cX6_judged 54 = .ok (.imul, 1) := by decide +kernel
theorem dX6_judged_55 : decode cX6_judged 55 = .ok (.iload 11, 2) := by decide +kernel
theorem dX6_judged_57 : decode cX6_judged 57 = .ok (.iadd, 1) := by decide +kernel
theorem dX6_judged_58 : decode cX6_judged 58 = .ok (.iaload, 1) := by decide +kernel
theorem dX6_judged_59 : decode cX6_judged 59 = .ok (.istore 12, 2) := by decide +kernel
theorem dX6_judged_61 : decode cX6_judged 61 = .ok (.iload 11, 2) := by decide +kernel
theorem dX6_judged_63 : decode cX6_judged 63 = .ok (.ifCond .le 20, 3) := by decide +kernel
theorem dX6_judged_66 : decode cX6_judged 66 = .ok (.aload_n 0, 1) := by decide +kernel
theorem dX6_judged_67 : decode cX6_judged 67 = .ok (.getfield 16, 3) := by decide +kernel
theorem dX6_judged_70 : decode cX6_judged 70 = .ok (.bipush 40, 2) := by decide +kernel
theorem dX6_judged_72 : decode cX6_judged 72 = .ok (.iload_n 1, 1) := by decide +kernel
theorem dX6_judged_73 : decode cX6_judged 73 = .ok (.imul, 1) := by decide +kernel
theorem dX6_judged_74 : decode cX6_judged 74 = .ok (.iload 11, 2) := by decide +kernel
theorem dX6_judged_76 : decode cX6_judged 76 = .ok (.iadd, 1) := by decide +kernel
theorem dX6_judged_77 : decode cX6_judged 77 = .ok (.iconst 1, 1) := by decide +kernel
theorem dX6_judged_78 : decode cX6_judged 78 = .ok (.isub, 1) := by decide +kernel
theorem dX6_judged_79 : decode cX6_judged 79 = .ok (.iaload, 1) := by decide +kernel
theorem dX6_judged_80 : decode cX6_judged 80 = .ok (.goto 5, 3) := by decide +kernel
theorem dX6_judged_83 : decode cX6_judged 83 = .ok (.bipush (-2), 2) := by decide +kernel
theorem dX6_judged_85 : decode cX6_judged 85 = .ok (.istore 13, 2) := by decide +kernel
theorem dX6_judged_87 : decode cX6_judged 87 = .ok (.iload 12, 2) := by decide +kernel
theorem dX6_judged_89 : decode cX6_judged 89 = .ok (.iconst (-1), 1) := by decide +kernel
theorem dX6_judged_90 : decode cX6_judged 90 = .ok (.if_icmp .ne 23, 3) := by decide +kernel
theorem dX6_judged_93 : decode cX6_judged 93 = .ok (.iload 10, 2) := by decide +kernel
theorem dX6_judged_95 : decode cX6_judged 95 = .ok (.ifCond .ne 8, 3) := by decide +kernel
theorem dX6_judged_98 : decode cX6_judged 98 = .ok (.iload 6, 2) := by decide +kernel
theorem dX6_judged_100 : decode cX6_judged 100 = .ok (.ifCond .ne 7, 3) := by decide +kernel
theorem dX6_judged_103 : decode cX6_judged 103 = .ok (.iconst 1, 1) := by decide +kernel
theorem dX6_judged_104 : decode cX6_judged 104 = .ok (.goto 4, 3) := by decide +kernel
theorem dX6_judged_107 : decode cX6_judged 107 = .ok (.iconst 0, 1) := by decide +kernel
theorem dX6_judged_108 : decode cX6_judged 108 = .ok (.istore 10, 2) := by decide +kernel
theorem dX6_judged_110 : decode cX6_judged 110 = .ok (.iconst 1, 1) := by decide +kernel
theorem dX6_judged_111 : decode cX6_judged 111 = .ok (.istore 7, 2) := by decide +kernel
theorem dX6_judged_113 : decode cX6_judged 113 = .ok (.iload 12, 2) := by decide +kernel
theorem dX6_judged_115 : decode cX6_judged 115 = .ok (.iload 4, 2) := by decide +kernel
theorem dX6_judged_117 : decode cX6_judged 117 = .ok (.if_icmp .ne 22, 3) := by decide +kernel
theorem dX6_judged_120 : decode cX6_judged 120 = .ok (.aload_n 0, 1) := by decide +kernel
theorem dX6_judged_121 : decode cX6_judged 121 = .ok (.getfield 22, 3) := by decide +kernel
theorem dX6_judged_124 : decode cX6_judged 124 = .ok (.iload_n 2, 1) := by decide +kernel
theorem dX6_judged_125 : decode cX6_judged 125 = .ok (.iaload, 1) := by decide +kernel
theorem dX6_judged_126 : decode cX6_judged 126 = .ok (.bipush 6, 2) := by decide +kernel
theorem dX6_judged_128 : decode cX6_judged 128 = .ok (.if_icmp .ne 11, 3) := by decide +kernel
theorem dX6_judged_131 : decode cX6_judged 131 = .ok (.iload 5, 2) := by decide +kernel
theorem dX6_judged_133 : decode cX6_judged 133 = .ok (.ifCond .le 6, 3) := by decide +kernel
theorem dX6_judged_136 : decode cX6_judged 136 = .ok (.iconst 0, 1) := by decide +kernel
theorem dX6_judged_137 : decode cX6_judged 137 = .ok (.istore 9, 2) := by decide +kernel
theorem dX6_judged_139 : decode cX6_judged 139 = .ok (.iload 12, 2) := by decide +kernel
theorem dX6_judged_141 : decode cX6_judged 141 = .ok (.iload_n 3, 1) := by decide +kernel
theorem dX6_judged_142 : decode cX6_judged 142 = .ok (.if_icmp .ne 121, 3) := by decide +kernel
theorem dX6_judged_145 : decode cX6_judged 145 = .ok (.iload 10, 2) := by decide +kernel
theorem dX6_judged_147 : decode cX6_judged 147 = .ok (.ifCond .ne 8, 3) := by decide +kernel
theorem dX6_judged_150 : decode cX6_judged 150 = .ok (.iload 6, 2) := by decide +kernel
theorem dX6_judged_152 : decode cX6_judged 152 = .ok (.ifCond .ne 7, 3) := by decide +kernel
theorem dX6_judged_155 : decode cX6_judged 155 = .ok (.iconst 1, 1) := by decide +kernel
theorem dX6_judged_156 : decode cX6_judged 156 = .ok (.goto 4, 3) := by decide +kernel
theorem dX6_judged_159 : decode cX6_judged 159 = .ok (.iconst 0, 1) := by decide +kernel
theorem dX6_judged_160 : decode cX6_judged 160 = .ok (.istore 10, 2) := by decide +kernel
theorem dX6_judged_162 : decode cX6_judged 162 = .ok (.aload_n 0, 1) := by decide +kernel
theorem dX6_judged_163 : decode cX6_judged 163 = .ok (.getfield 22, 3) := by decide +kernel
theorem dX6_judged_166 : decode cX6_judged 166 = .ok (.iload_n 2, 1) := by decide +kernel
theorem dX6_judged_167 : decode cX6_judged 167 = .ok (.iaload, 1) := by decide +kernel
theorem dX6_judged_168 : decode cX6_judged 168 = .ok (.iconst 2, 1) := by decide +kernel
theorem dX6_judged_169 : decode cX6_judged 169 = .ok (.if_icmp .ne 31, 3) := by decide +kernel
theorem dX6_judged_172 : decode cX6_judged 172 = .ok (.iload 8, 2) := by decide +kernel
theorem dX6_judged_174 : decode cX6_judged 174 = .ok (.ifCond .eq 23, 3) := by decide +kernel
theorem dX6_judged_177 : decode cX6_judged 177 = .ok (.iload_n 3, 1) := by decide +kernel
theorem dX6_judged_178 : decode cX6_judged 178 = .ok (.iload 4, 2) := by decide +kernel
theorem dX6_judged_180 : decode cX6_judged 180 = .ok (.if_icmp .eq 17, 3) := by decide +kernel
theorem dX6_judged_183 : decode cX6_judged 183 = .ok (.iload 6, 2) := by decide +kernel
theorem dX6_judged_185 : decode cX6_judged 185 = .ok (.ifCond .gt 8, 3) := by decide +kernel
theorem dX6_judged_188 : decode cX6_judged 188 = .ok (.iload 7, 2) := by decide +kernel
theorem dX6_judged_190 : decode cX6_judged 190 = .ok (.ifCond .eq 7, 3) := by decide +kernel
theorem dX6_judged_193 : decode cX6_judged 193 = .ok (.iconst 1, 1) := by decide +kernel
theorem dX6_judged_194 : decode cX6_judged 194 = .ok (.goto 4, 3) := by decide +kernel
theorem dX6_judged_197 : decode cX6_judged 197 = .ok (.iconst 0, 1) := by decide +kernel
theorem dX6_judged_198 : decode cX6_judged 198 = .ok (.istore 8, 2) := by decide +kernel
theorem dX6_judged_200 : decode cX6_judged 200 = .ok (.aload_n 0, 1) := by decide +kernel
theorem dX6_judged_201 : decode cX6_judged 201 = .ok (.getfield 22, 3) := by decide +kernel
theorem dX6_judged_204 : decode cX6_judged 204 = .ok (.iload_n 2, 1) := by decide +kernel
theorem dX6_judged_205 : decode cX6_judged 205 = .ok (.iaload, 1) := by decide +kernel
theorem dX6_judged_206 : decode cX6_judged 206 = .ok (.iconst 5, 1) := by decide +kernel
theorem dX6_judged_207 : decode cX6_judged 207 = .ok (.if_icmp .ne 53, 3) := by decide +kernel
theorem dX6_judged_210 : decode cX6_judged 210 = .ok (.iload 8, 2) := by decide +kernel
theorem dX6_judged_212 : decode cX6_judged 212 = .ok (.ifCond .eq 26, 3) := by decide +kernel
theorem dX6_judged_215 : decode cX6_judged 215 = .ok (.iload_n 3, 1) := by decide +kernel
theorem dX6_judged_216 : decode cX6_judged 216 = .ok (.iload 4, 2) := by decide +kernel
theorem dX6_judged_218 : decode cX6_judged 218 = .ok (.if_icmp .eq 20, 3) := by decide +kernel
theorem dX6_judged_221 : decode cX6_judged 221 = .ok (.iload 13, 2) := by decide +kernel
theorem dX6_judged_223 : decode cX6_judged 223 = .ok (.iload 4, 2) := by decide +kernel
theorem dX6_judged_225 : decode cX6_judged 225 = .ok (.if_icmp .eq 9, 3) := by decide +kernel
theorem dX6_judged_228 : decode cX6_judged 228 = .ok (.iload 13, 2) := by decide +kernel
theorem dX6_judged_230 : decode cX6_judged 230 = .ok (.iconst (-1), 1) := by decide +kernel
theorem dX6_judged_231 : decode cX6_judged 231 = .ok (.if_icmp .ne 7, 3) := by decide +kernel
theorem dX6_judged_234 : decode cX6_judged 234 = .ok (.iconst 1, 1) := by decide +kernel
theorem dX6_judged_235 : decode cX6_judged 235 = .ok (.goto 4, 3) := by decide +kernel
theorem dX6_judged_238 : decode cX6_judged 238 = .ok (.iconst 0, 1) := by decide +kernel
theorem dX6_judged_239 : decode cX6_judged 239 = .ok (.istore 8, 2) := by decide +kernel
theorem dX6_judged_241 : decode cX6_judged 241 = .ok (.iload 9, 2) := by decide +kernel
theorem dX6_judged_243 : decode cX6_judged 243 = .ok (.ifCond .eq 14, 3) := by decide +kernel
theorem dX6_judged_246 : decode cX6_judged 246 = .ok (.iload 13, 2) := by decide +kernel
theorem dX6_judged_248 : decode cX6_judged 248 = .ok (.iload 4, 2) := by decide +kernel
theorem dX6_judged_250 : decode cX6_judged 250 = .ok (.if_icmp .ne 7, 3) := by decide +kernel
theorem dX6_judged_253 : decode cX6_judged 253 = .ok (.iconst 1, 1) := by decide +kernel
theorem dX6_judged_254 : decode cX6_judged 254 = .ok (.goto 4, 3) := by decide +kernel
theorem dX6_judged_257 : decode cX6_judged 257 = .ok (.iconst 0, 1) := by decide +kernel
theorem dX6_judged_258 : decode cX6_judged 258 = .ok (.istore 9, 2) := by decide +kernel
theorem dX6_judged_260 : decode cX6_judged 260 = .ok (.iinc 5 1, 3) := by decide +kernel
theorem dX6_judged_263 : decode cX6_judged 263 = .ok (.iload 6, 2) := by decide +kernel
theorem dX6_judged_265 : decode cX6_judged 265 = .ok (.iload 12, 2) := by decide +kernel
theorem dX6_judged_267 : decode cX6_judged 267 = .ok (.iload 4, 2) := by decide +kernel
theorem dX6_judged_269 : decode cX6_judged 269 = .ok (.if_icmp .ne 7, 3) := by decide +kernel
theorem dX6_judged_272 : decode cX6_judged 272 = .ok (.iconst 1, 1) := by decide +kernel
theorem dX6_judged_273 : decode cX6_judged 273 = .ok (.goto 4, 3) := by decide +kernel
theorem dX6_judged_276 : decode cX6_judged 276 = .ok (.iconst 0, 1) := by decide +kernel
theorem dX6_judged_277 : decode cX6_judged 277 = .ok (.iadd, 1) := by decide +kernel
theorem dX6_judged_278 : decode cX6_judged 278 = .ok (.istore 6, 2) := by decide +kernel
theorem dX6_judged_280 : decode cX6_judged 280 = .ok (.iinc 11 1, 3) := by decide +kernel
theorem dX6_judged_283 : decode cX6_judged 283 = .ok (.goto (-247), 3) := by decide +kernel
theorem dX6_judged_286 : decode cX6_judged 286 = .ok (.iconst 1, 1) := by decide +kernel
theorem dX6_judged_287 : decode cX6_judged 287 = .ok (.istore 11, 2) := by decide +kernel
theorem dX6_judged_289 : decode cX6_judged 289 = .ok (.iload 7, 2) := by decide +kernel
theorem dX6_judged_291 : decode cX6_judged 291 = .ok (.istore 12, 2) := by decide +kernel
theorem dX6_judged_293 : decode cX6_judged 293 = .ok (.aload_n 0, 1) := by decide +kernel
theorem dX6_judged_294 : decode cX6_judged 294 = .ok (.getfield 22, 3) := by decide +kernel
theorem dX6_judged_297 : decode cX6_judged 297 = .ok (.iload_n 2, 1) := by decide +kernel
theorem dX6_judged_298 : decode cX6_judged 298 = .ok (.iaload, 1) := by decide +kernel
theorem dX6_judged_299 : decode cX6_judged 299 = .ok (.tableswitch 209 0 5 #[37, 69, 105, 116, 153, 185], 37) := by decide +kernel
theorem dX6_judged_336 : decode cX6_judged 336 = .ok (.iload 5, 2) := by decide +kernel
theorem dX6_judged_338 : decode cX6_judged 338 = .ok (.ifCond .ne 7, 3) := by decide +kernel
theorem dX6_judged_341 : decode cX6_judged 341 = .ok (.iconst 1, 1) := by decide +kernel
theorem dX6_judged_342 : decode cX6_judged 342 = .ok (.goto 4, 3) := by decide +kernel
theorem dX6_judged_345 : decode cX6_judged 345 = .ok (.iconst 0, 1) := by decide +kernel
theorem dX6_judged_346 : decode cX6_judged 346 = .ok (.istore 11, 2) := by decide +kernel
theorem dX6_judged_348 : decode cX6_judged 348 = .ok (.iload 7, 2) := by decide +kernel
theorem dX6_judged_350 : decode cX6_judged 350 = .ok (.ifCond .ne 8, 3) := by decide +kernel
theorem dX6_judged_353 : decode cX6_judged 353 = .ok (.iload 5, 2) := by decide +kernel
theorem dX6_judged_355 : decode cX6_judged 355 = .ok (.ifCond .le 7, 3) := by decide +kernel
theorem dX6_judged_358 : decode cX6_judged 358 = .ok (.iconst 1, 1) := by decide +kernel
theorem dX6_judged_359 : decode cX6_judged 359 = .ok (.goto 4, 3) := by decide +kernel
theorem dX6_judged_362 : decode cX6_judged 362 = .ok (.iconst 0, 1) := by decide +kernel
theorem dX6_judged_363 : decode cX6_judged 363 = .ok (.istore 12, 2) := by decide +kernel
theorem dX6_judged_365 : decode cX6_judged 365 = .ok (.goto 164, 3) := by decide +kernel
theorem dX6_judged_368 : decode cX6_judged 368 = .ok (.iload 5, 2) := by decide +kernel
theorem dX6_judged_370 : decode cX6_judged 370 = .ok (.iload 4, 2) := by decide +kernel
theorem dX6_judged_372 : decode cX6_judged 372 = .ok (.if_icmp .gt 7, 3) := by decide +kernel
theorem dX6_judged_375 : decode cX6_judged 375 = .ok (.iconst 1, 1) := by decide +kernel
theorem dX6_judged_376 : decode cX6_judged 376 = .ok (.goto 4, 3) := by decide +kernel
theorem dX6_judged_379 : decode cX6_judged 379 = .ok (.iconst 0, 1) := by decide +kernel
theorem dX6_judged_380 : decode cX6_judged 380 = .ok (.istore 11, 2) := by decide +kernel
theorem dX6_judged_382 : decode cX6_judged 382 = .ok (.iload 7, 2) := by decide +kernel
theorem dX6_judged_384 : decode cX6_judged 384 = .ok (.ifCond .ne 10, 3) := by decide +kernel
theorem dX6_judged_387 : decode cX6_judged 387 = .ok (.iload 5, 2) := by decide +kernel
theorem dX6_judged_389 : decode cX6_judged 389 = .ok (.iload 4, 2) := by decide +kernel
theorem dX6_judged_391 : decode cX6_judged 391 = .ok (.if_icmp .le 7, 3) := by decide +kernel
theorem dX6_judged_394 : decode cX6_judged 394 = .ok (.iconst 1, 1) := by decide +kernel
theorem dX6_judged_395 : decode cX6_judged 395 = .ok (.goto 4, 3) := by decide +kernel
theorem dX6_judged_398 : decode cX6_judged 398 = .ok (.iconst 0, 1) := by decide +kernel
theorem dX6_judged_399 : decode cX6_judged 399 = .ok (.istore 12, 2) := by decide +kernel
theorem dX6_judged_401 : decode cX6_judged 401 = .ok (.goto 128, 3) := by decide +kernel
theorem dX6_judged_404 : decode cX6_judged 404 = .ok (.iload 8, 2) := by decide +kernel
theorem dX6_judged_406 : decode cX6_judged 406 = .ok (.istore 11, 2) := by decide +kernel
theorem dX6_judged_408 : decode cX6_judged 408 = .ok (.iload 10, 2) := by decide +kernel
theorem dX6_judged_410 : decode cX6_judged 410 = .ok (.istore 12, 2) := by decide +kernel
theorem dX6_judged_412 : decode cX6_judged 412 = .ok (.goto 117, 3) := by decide +kernel
theorem dX6_judged_415 : decode cX6_judged 415 = .ok (.iload 5, 2) := by decide +kernel
theorem dX6_judged_417 : decode cX6_judged 417 = .ok (.ifCond .eq 8, 3) := by decide +kernel
theorem dX6_judged_420 : decode cX6_judged 420 = .ok (.iload 6, 2) := by decide +kernel
theorem dX6_judged_422 : decode cX6_judged 422 = .ok (.ifCond .ne 7, 3) := by decide +kernel
theorem dX6_judged_425 : decode cX6_judged 425 = .ok (.iconst 1, 1) := by decide +kernel
theorem dX6_judged_426 : decode cX6_judged 426 = .ok (.goto 4, 3) := by decide +kernel
theorem dX6_judged_429 : decode cX6_judged 429 = .ok (.iconst 0, 1) := by decide +kernel
theorem dX6_judged_430 : decode cX6_judged 430 = .ok (.istore 11, 2) := by decide +kernel
theorem dX6_judged_432 : decode cX6_judged 432 = .ok (.iload 7, 2) := by decide +kernel
theorem dX6_judged_434 : decode cX6_judged 434 = .ok (.ifCond .ne 8, 3) := by decide +kernel
theorem dX6_judged_437 : decode cX6_judged 437 = .ok (.iload 11, 2) := by decide +kernel
theorem dX6_judged_439 : decode cX6_judged 439 = .ok (.ifCond .ne 7, 3) := by decide +kernel
theorem dX6_judged_442 : decode cX6_judged 442 = .ok (.iconst 1, 1) := by decide +kernel
theorem dX6_judged_443 : decode cX6_judged 443 = .ok (.goto 4, 3) := by decide +kernel
theorem dX6_judged_446 : decode cX6_judged 446 = .ok (.iconst 0, 1) := by decide +kernel
theorem dX6_judged_447 : decode cX6_judged 447 = .ok (.istore 12, 2) := by decide +kernel
theorem dX6_judged_449 : decode cX6_judged 449 = .ok (.goto 80, 3) := by decide +kernel
theorem dX6_judged_452 : decode cX6_judged 452 = .ok (.iload 5, 2) := by decide +kernel
theorem dX6_judged_454 : decode cX6_judged 454 = .ok (.ifCond .gt 8, 3) := by decide +kernel
theorem dX6_judged_457 : decode cX6_judged 457 = .ok (.iload 7, 2) := by decide +kernel
theorem dX6_judged_459 : decode cX6_judged 459 = .ok (.ifCond .eq 7, 3) := by decide +kernel
theorem dX6_judged_462 : decode cX6_judged 462 = .ok (.iconst 1, 1) := by decide +kernel
theorem dX6_judged_463 : decode cX6_judged 463 = .ok (.goto 4, 3) := by decide +kernel
theorem dX6_judged_466 : decode cX6_judged 466 = .ok (.iconst 0, 1) := by decide +kernel
theorem dX6_judged_467 : decode cX6_judged 467 = .ok (.istore 11, 2) := by decide +kernel
theorem dX6_judged_469 : decode cX6_judged 469 = .ok (.iload 5, 2) := by decide +kernel
theorem dX6_judged_471 : decode cX6_judged 471 = .ok (.ifCond .ne 7, 3) := by decide +kernel
theorem dX6_judged_474 : decode cX6_judged 474 = .ok (.iconst 1, 1) := by decide +kernel
theorem dX6_judged_475 : decode cX6_judged 475 = .ok (.goto 4, 3) := by decide +kernel
theorem dX6_judged_478 : decode cX6_judged 478 = .ok (.iconst 0, 1) := by decide +kernel
theorem dX6_judged_479 : decode cX6_judged 479 = .ok (.istore 12, 2) := by decide +kernel
theorem dX6_judged_481 : decode cX6_judged 481 = .ok (.goto 48, 3) := by decide +kernel
theorem dX6_judged_484 : decode cX6_judged 484 = .ok (.iload 8, 2) := by decide +kernel
theorem dX6_judged_486 : decode cX6_judged 486 = .ok (.istore 11, 2) := by decide +kernel
theorem dX6_judged_488 : decode cX6_judged 488 = .ok (.iload 7, 2) := by decide +kernel
theorem dX6_judged_490 : decode cX6_judged 490 = .ok (.ifCond .ne 8, 3) := by decide +kernel
theorem dX6_judged_493 : decode cX6_judged 493 = .ok (.iload 9, 2) := by decide +kernel
theorem dX6_judged_495 : decode cX6_judged 495 = .ok (.ifCond .ne 7, 3) := by decide +kernel
theorem dX6_judged_498 : decode cX6_judged 498 = .ok (.iconst 1, 1) := by decide +kernel
theorem dX6_judged_499 : decode cX6_judged 499 = .ok (.goto 4, 3) := by decide +kernel
theorem dX6_judged_502 : decode cX6_judged 502 = .ok (.iconst 0, 1) := by decide +kernel
theorem dX6_judged_503 : decode cX6_judged 503 = .ok (.istore 12, 2) := by decide +kernel
theorem dX6_judged_505 : decode cX6_judged 505 = .ok (.goto 24, 3) := by decide +kernel
theorem dX6_judged_508 : decode cX6_judged 508 = .ok (.iload 9, 2) := by decide +kernel
theorem dX6_judged_510 : decode cX6_judged 510 = .ok (.istore 11, 2) := by decide +kernel
theorem dX6_judged_512 : decode cX6_judged 512 = .ok (.iload 7, 2) := by decide +kernel
theorem dX6_judged_514 : decode cX6_judged 514 = .ok (.ifCond .ne 8, 3) := by decide +kernel
theorem dX6_judged_517 : decode cX6_judged 517 = .ok (.iload 9, 2) := by decide +kernel
theorem dX6_judged_519 : decode cX6_judged 519 = .ok (.ifCond .ne 7, 3) := by decide +kernel
theorem dX6_judged_522 : decode cX6_judged 522 = .ok (.iconst 1, 1) := by decide +kernel
theorem dX6_judged_523 : decode cX6_judged 523 = .ok (.goto 4, 3) := by decide +kernel
theorem dX6_judged_526 : decode cX6_judged 526 = .ok (.iconst 0, 1) := by decide +kernel
theorem dX6_judged_527 : decode cX6_judged 527 = .ok (.istore 12, 2) := by decide +kernel
theorem dX6_judged_529 : decode cX6_judged 529 = .ok (.iload 12, 2) := by decide +kernel
theorem dX6_judged_531 : decode cX6_judged 531 = .ok (.ifCond .ne 7, 3) := by decide +kernel
theorem dX6_judged_534 : decode cX6_judged 534 = .ok (.iconst 0, 1) := by decide +kernel
theorem dX6_judged_535 : decode cX6_judged 535 = .ok (.goto 13, 3) := by decide +kernel
theorem dX6_judged_538 : decode cX6_judged 538 = .ok (.iload 11, 2) := by decide +kernel
theorem dX6_judged_540 : decode cX6_judged 540 = .ok (.ifCond .eq 7, 3) := by decide +kernel
theorem dX6_judged_543 : decode cX6_judged 543 = .ok (.iconst 1, 1) := by decide +kernel
theorem dX6_judged_544 : decode cX6_judged 544 = .ok (.goto 4, 3) := by decide +kernel
theorem dX6_judged_547 : decode cX6_judged 547 = .ok (.iconst 2, 1) := by decide +kernel
theorem dX6_judged_548 : decode cX6_judged 548 = .ok (.ireturn, 1) := by decide +kernel
theorem dX6_judge_0 : decode cX6_judge 0 = .ok (.iload_n 1, 1) := by decide +kernel
theorem dX6_judge_1 : decode cX6_judge 1 = .ok (.invokestatic 89, 3) := by decide +kernel
theorem dX6_judge_4 : decode cX6_judge 4 = .ok (.ifCond .eq 26, 3) := by decide +kernel
theorem dX6_judge_7 : decode cX6_judge 7 = .ok (.iload_n 2, 1) := by decide +kernel
theorem dX6_judge_8 : decode cX6_judge 8 = .ok (.iconst 0, 1) := by decide +kernel
theorem dX6_judge_9 : decode cX6_judge 9 = .ok (.aload_n 0, 1) := by decide +kernel
theorem dX6_judge_10 : decode cX6_judge 10 = .ok (.getfield 81, 3) := by decide +kernel
theorem dX6_judge_13 : decode cX6_judge 13 = .ok (.iconst 1, 1) := by decide +kernel
theorem dX6_judge_14 : decode cX6_judge 14 = .ok (.isub, 1) := by decide +kernel
theorem dX6_judge_15 : decode cX6_judge 15 = .ok (.invokestatic 62, 3) := by decide +kernel
theorem dX6_judge_18 : decode cX6_judge 18 = .ok (.ifCond .eq 12, 3) := by decide +kernel
theorem dX6_judge_21 : decode cX6_judge 21 = .ok (.aload_n 0, 1) := by decide +kernel
theorem dX6_judge_22 : decode cX6_judge 22 = .ok (.iload_n 1, 1) := by decide +kernel
theorem dX6_judge_23 : decode cX6_judge 23 = .ok (.iload_n 2, 1) := by decide +kernel
theorem dX6_judge_24 : decode cX6_judge 24 = .ok (.invokevirtual 92, 3) := by decide +kernel
theorem dX6_judge_27 : decode cX6_judge 27 = .ok (.goto 5, 3) := by decide +kernel
theorem dX6_judge_30 : decode cX6_judge 30 = .ok (.bipush (-2), 2) := by decide +kernel
theorem dX6_judge_32 : decode cX6_judge 32 = .ok (.ireturn, 1) := by decide +kernel
theorem dX6_verdict_0 : decode cX6_verdict 0 = .ok (.iload_n 1, 1) := by decide +kernel
theorem dX6_verdict_1 : decode cX6_verdict 1 = .ok (.invokestatic 89, 3) := by decide +kernel
theorem dX6_verdict_4 : decode cX6_verdict 4 = .ok (.ifCond .ne 6, 3) := by decide +kernel
theorem dX6_verdict_7 : decode cX6_verdict 7 = .ok (.bipush (-2), 2) := by decide +kernel
theorem dX6_verdict_9 : decode cX6_verdict 9 = .ok (.ireturn, 1) := by decide +kernel
theorem dX6_verdict_10 : decode cX6_verdict 10 = .ok (.iconst 0, 1) := by decide +kernel
theorem dX6_verdict_11 : decode cX6_verdict 11 = .ok (.istore_n 2, 1) := by decide +kernel
theorem dX6_verdict_12 : decode cX6_verdict 12 = .ok (.iconst 0, 1) := by decide +kernel
theorem dX6_verdict_13 : decode cX6_verdict 13 = .ok (.istore_n 3, 1) := by decide +kernel
theorem dX6_verdict_14 : decode cX6_verdict 14 = .ok (.iload_n 3, 1) := by decide +kernel
theorem dX6_verdict_15 : decode cX6_verdict 15 = .ok (.aload_n 0, 1) := by decide +kernel
theorem dX6_verdict_16 : decode cX6_verdict 16 = .ok (.getfield 81, 3) := by decide +kernel
theorem dX6_verdict_19 : decode cX6_verdict 19 = .ok (.if_icmp .ge 30, 3) := by decide +kernel
theorem dX6_verdict_22 : decode cX6_verdict 22 = .ok (.aload_n 0, 1) := by decide +kernel
theorem dX6_verdict_23 : decode cX6_verdict 23 = .ok (.iload_n 1, 1) := by decide +kernel
theorem dX6_verdict_24 : decode cX6_verdict 24 = .ok (.iload_n 3, 1) := by decide +kernel
theorem dX6_verdict_25 : decode cX6_verdict 25 = .ok (.invokevirtual 92, 3) := by decide +kernel
theorem dX6_verdict_28 : decode cX6_verdict 28 = .ok (.istore 4, 2) := by decide +kernel
theorem dX6_verdict_30 : decode cX6_verdict 30 = .ok (.iload 4, 2) := by decide +kernel
theorem dX6_verdict_32 : decode cX6_verdict 32 = .ok (.iload_n 2, 1) := by decide +kernel
theorem dX6_verdict_33 : decode cX6_verdict 33 = .ok (.if_icmp .le 8, 3) := by decide +kernel
theorem dX6_verdict_36 : decode cX6_verdict 36 = .ok (.iload 4, 2) := by decide +kernel
theorem dX6_verdict_38 : decode cX6_verdict 38 = .ok (.goto 4, 3) := by decide +kernel
theorem dX6_verdict_41 : decode cX6_verdict 41 = .ok (.iload_n 2, 1) := by decide +kernel
theorem dX6_verdict_42 : decode cX6_verdict 42 = .ok (.istore_n 2, 1) := by decide +kernel
theorem dX6_verdict_43 : decode cX6_verdict 43 = .ok (.iinc 3 1, 3) := by decide +kernel
theorem dX6_verdict_46 : decode cX6_verdict 46 = .ok (.goto (-32), 3) := by decide +kernel
theorem dX6_verdict_49 : decode cX6_verdict 49 = .ok (.iload_n 2, 1) := by decide +kernel
theorem dX6_verdict_50 : decode cX6_verdict 50 = .ok (.ireturn, 1) := by decide +kernel
