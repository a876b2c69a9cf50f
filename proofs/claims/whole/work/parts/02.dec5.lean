theorem dX6_both_0 : decode cX6_both 0 = .ok (.iload_n 1, 1) := by decide +kernel
theorem dX6_both_1 : decode cX6_both 1 = .ok (.invokestatic 89, 3) := by decide +kernel
theorem dX6_both_4 : decode cX6_both 4 = .ok (.ifCond .eq 17, 3) := by decide +kernel
theorem dX6_both_7 : decode cX6_both 7 = .ok (.iload_n 2, 1) := by decide +kernel
theorem dX6_both_8 : decode cX6_both 8 = .ok (.invokestatic 89, 3) := by decide +kernel
theorem dX6_both_11 : decode cX6_both 11 = .ok (.ifCond .eq 10, 3) := by decide +kernel
theorem dX6_both_14 : decode cX6_both 14 = .ok (.iload_n 3, 1) := by decide +kernel
theorem dX6_both_15 : decode cX6_both 15 = .ok (.invokestatic 89, 3) := by decide +kernel
theorem dX6_both_18 : decode cX6_both 18 = .ok (.ifCond .ne 6, 3) := by decide +kernel
theorem dX6_both_21 : decode cX6_both 21 = .ok (.bipush (-2), 2) := by decide +kernel
theorem dX6_both_23 : decode cX6_both 23 = .ok (.ireturn, 1) := by decide +kernel
theorem dX6_both_24 : decode cX6_both 24 = .ok (.aload_n 0, 1) := by decide +kernel
theorem dX6_both_25 : decode cX6_both 25 = .ok (.getfield 19, 3) := by decide +kernel
theorem dX6_both_28 : decode cX6_both 28 = .ok (.iload_n 1, 1) := by decide +kernel
theorem dX6_both_29 : decode cX6_both 29 = .ok (.iaload, 1) := by decide +kernel
theorem dX6_both_30 : decode cX6_both 30 = .ok (.aload_n 0, 1) := by decide +kernel
theorem dX6_both_31 : decode cX6_both 31 = .ok (.getfield 19, 3) := by decide +kernel
theorem dX6_both_34 : decode cX6_both 34 = .ok (.iload_n 2, 1) := by decide +kernel
theorem dX6_both_35 : decode cX6_both 35 = .ok (.iaload, 1) := by decide +kernel
theorem dX6_both_36 : decode cX6_both 36 = .ok (.if_icmp .eq 6, 3) := by decide +kernel
theorem dX6_both_39 : decode cX6_both 39 = .ok (.bipush (-3), 2) := by decide +kernel
theorem dX6_both_41 : decode cX6_both 41 = .ok (.ireturn, 1) := by decide +kernel
theorem dX6_both_42 : decode cX6_both 42 = .ok (.iconst 0, 1) := by decide +kernel
theorem dX6_both_43 : decode cX6_both 43 = .ok (.istore 4, 2) := by decide +kernel
theorem dX6_both_45 : decode cX6_both 45 = .ok (.aload_n 0, 1) := by decide +kernel
theorem dX6_both_46 : decode cX6_both 46 = .ok (.getfield 19, 3) := by decide +kernel
theorem dX6_both_49 : decode cX6_both 49 = .ok (.iload_n 1, 1) := by decide +kernel
theorem dX6_both_50 : decode cX6_both 50 = .ok (.iaload, 1) := by decide +kernel
theorem dX6_both_51 : decode cX6_both 51 = .ok (.istore 5, 2) := by decide +kernel
theorem dX6_both_53 : decode cX6_both 53 = .ok (.iconst 0, 1) := by decide +kernel
theorem dX6_both_54 : decode cX6_both 54 = .ok (.istore 6, 2) := by decide +kernel
theorem dX6_both_56 : decode cX6_both 56 = .ok (.iload 6, 2) := by decide +kernel
theorem dX6_both_58 : decode cX6_both 58 = .ok (.iload 5, 2) := by decide +kernel
theorem dX6_both_60 : decode cX6_both 60 = .ok (.if_icmp .ge 112, 3) := by decide +kernel
theorem dX6_both_63 : decode cX6_both 63 = .ok (.aload_n 0, 1) := by decide +kernel
theorem dX6_both_64 : decode cX6_both 64 = .ok (.getfield 16, 3) := by decide +kernel
theorem dX6_both_67 : decode cX6_both 67 = .ok (.bipush 40, 2) := by decide +kernel
theorem dX6_both_69 : decode cX6_both 69 = .ok (.iload_n 1, 1) := by decide +kernel
theorem dX6_both_70 : decode cX6_both 70 = .ok (.imul, 1) := by decide +kernel
theorem dX6_both_71 : decode cX6_both 71 = .ok (.iload 6, 2) := by decide +kernel
theorem dX6_both_73 : decode cX6_both 73 = .ok (.iadd, 1) := by decide +kernel
theorem dX6_both_74 : decode cX6_both 74 = .ok (.iaload, 1) := by decide +kernel
theorem dX6_both_75 : decode cX6_both 75 = .ok (.istore 7, 2) := by decide +kernel
theorem dX6_both_77 : decode cX6_both 77 = .ok (.aload_n 0, 1) := by decide +kernel
theorem dX6_both_78 : decode cX6_both 78 = .ok (.getfield 16, 3) := by decide +kernel
theorem dX6_both_81 : decode cX6_both 81 = .ok (.bipush 40, 2) := by decide +kernel
theorem dX6_both_83 : decode cX6_both 83 = .ok (.iload_n 2, 1) := by decide +kernel
theorem dX6_both_84 : decode cX6_both 84 = .ok (.imul, 1) := by decide +kernel
theorem dX6_both_85 : decode cX6_both 85 = .ok (.iload 6, 2) := by decide +kernel
theorem dX6_both_87 : decode cX6_both 87 = .ok (.iadd, 1) := by decide +kernel
theorem dX6_both_88 : decode cX6_both 88 = .ok (.iaload, 1) := by decide +kernel
theorem dX6_both_89 : decode cX6_both 89 = .ok (.istore 8, 2) := by decide +kernel
theorem dX6_both_91 : decode cX6_both 91 = .ok (.iload 7, 2) := by decide +kernel
theorem dX6_both_93 : decode cX6_both 93 = .ok (.iload 8, 2) := by decide +kernel
theorem dX6_both_95 : decode cX6_both 95 = .ok (.if_icmp .eq 19, 3) := by decide +kernel
theorem dX6_both_98 : decode cX6_both 98 = .ok (.iload 7, 2) := by decide +kernel
theorem dX6_both_100 : decode cX6_both 100 = .ok (.iconst (-1), 1) := by decide +kernel
theorem dX6_both_101 : decode cX6_both 101 = .ok (.if_icmp .eq 13, 3) := by decide +kernel
theorem dX6_both_104 : decode cX6_both 104 = .ok (.iload 8, 2) := by decide +kernel
theorem dX6_both_106 : decode cX6_both 106 = .ok (.iconst (-1), 1) := by decide +kernel
theorem dX6_both_107 : decode cX6_both 107 = .ok (.if_icmp .eq 7, 3) := by decide +kernel
theorem dX6_both_110 : decode cX6_both 110 = .ok (.iconst 1, 1) := by decide +kernel
theorem dX6_both_111 : decode cX6_both 111 = .ok (.goto 4, 3) := by decide +kernel
theorem dX6_both_114 : decode cX6_both 114 = .ok (.iconst 0, 1) := by decide +kernel
theorem dX6_both_115 : decode cX6_both 115 = .ok (.istore 9, 2) := by decide +kernel
theorem dX6_both_117 : decode cX6_both 117 = .ok (.iload 4, 2) := by decide +kernel
theorem dX6_both_119 : decode cX6_both 119 = .ok (.iload 9, 2) := by decide +kernel
theorem dX6_both_121 : decode cX6_both 121 = .ok (.ifCond .eq 7, 3) := by decide +kernel
theorem dX6_both_124 : decode cX6_both 124 = .ok (.iconst 1, 1) := by decide +kernel
theorem dX6_both_125 : decode cX6_both 125 = .ok (.goto 4, 3) := by decide +kernel
theorem dX6_both_128 : decode cX6_both 128 = .ok (.iconst 0, 1) := by decide +kernel
theorem dX6_both_129 : decode cX6_both 129 = .ok (.iadd, 1) := by decide +kernel
theorem dX6_both_130 : decode cX6_both 130 = .ok (.istore 4, 2) := by decide +kernel
theorem dX6_both_132 : decode cX6_both 132 = .ok (.aload_n 0, 1) := by decide +kernel
theorem dX6_both_133 : decode cX6_both 133 = .ok (.getfield 16, 3) := by decide +kernel
theorem dX6_both_136 : decode cX6_both 136 = .ok (.bipush 40, 2) := by decide +kernel
theorem dX6_both_138 : decode cX6_both 138 = .ok (.iload_n 3, 1) := by decide +kernel
theorem dX6_both_139 : decode cX6_both 139 = .ok (.imul, 1) := by decide +kernel
theorem dX6_both_140 : decode cX6_both 140 = .ok (.iload 6, 2) := by decide +kernel
theorem dX6_both_142 : decode cX6_both 142 = .ok (.iadd, 1) := by decide +kernel
theorem dX6_both_143 : decode cX6_both 143 = .ok (.iload 9, 2) := by decide +kernel
theorem dX6_both_145 : decode cX6_both 145 = .ok (.ifCond .eq 7, 3) := by decide +kernel
theorem dX6_both_148 : decode cX6_both 148 = .ok (.iconst (-1), 1) := by decide +kernel
theorem dX6_both_149 : decode cX6_both 149 = .ok (.goto 16, 3) := by decide +kernel
theorem dX6_both_152 : decode cX6_both 152 = .ok (.iload 7, 2) := by decide +kernel
theorem dX6_both_154 : decode cX6_both 154 = .ok (.iconst (-1), 1) := by decide +kernel
theorem dX6_both_155 : decode cX6_both 155 = .ok (.if_icmp .ne 8, 3) := by decide +kernel
theorem dX6_both_158 : decode cX6_both 158 = .ok (.iload 8, 2) := by decide +kernel
theorem dX6_both_160 : decode cX6_both 160 = .ok (.goto 5, 3) := by decide +kernel
theorem dX6_both_163 : decode cX6_both 163 = .ok (.iload 7, 2) := by decide +kernel
theorem dX6_both_165 : decode cX6_both 165 = .ok (.iastore, 1) := by decide +kernel
theorem dX6_both_166 : decode cX6_both 166 = .ok (.iinc 6 1, 3) := by decide +kernel
theorem dX6_both_169 : decode cX6_both 169 = .ok (.goto (-113), 3) := by decide +kernel
theorem dX6_both_172 : decode cX6_both 172 = .ok (.aload_n 0, 1) := by decide +kernel
theorem dX6_both_173 : decode cX6_both 173 = .ok (.getfield 19, 3) := by decide +kernel
theorem dX6_both_176 : decode cX6_both 176 = .ok (.iload_n 3, 1) := by decide +kernel
theorem dX6_both_177 : decode cX6_both 177 = .ok (.iload 5, 2) := by decide +kernel
theorem dX6_both_179 : decode cX6_both 179 = .ok (.iastore, 1) := by decide +kernel
theorem dX6_both_180 : decode cX6_both 180 = .ok (.iload 4, 2) := by decide +kernel
theorem dX6_both_182 : decode cX6_both 182 = .ok (.ireturn, 1) := by decide +kernel
theorem dX6_may_0 : decode cX6_may 0 = .ok (.iload_n 1, 1) := by decide +kernel
theorem dX6_may_1 : decode cX6_may 1 = .ok (.invokestatic 89, 3) := by decide +kernel
theorem dX6_may_4 : decode cX6_may 4 = .ok (.ifCond .eq 10, 3) := by decide +kernel
theorem dX6_may_7 : decode cX6_may 7 = .ok (.iload_n 2, 1) := by decide +kernel
theorem dX6_may_8 : decode cX6_may 8 = .ok (.invokestatic 66, 3) := by decide +kernel
theorem dX6_may_11 : decode cX6_may 11 = .ok (.ifCond .ne 6, 3) := by decide +kernel
theorem dX6_may_14 : decode cX6_may 14 = .ok (.bipush (-2), 2) := by decide +kernel
theorem dX6_may_16 : decode cX6_may 16 = .ok (.ireturn, 1) := by decide +kernel
theorem dX6_may_17 : decode cX6_may 17 = .ok (.aload_n 0, 1) := by decide +kernel
theorem dX6_may_18 : decode cX6_may 18 = .ok (.getfield 19, 3) := by decide +kernel
theorem dX6_may_21 : decode cX6_may 21 = .ok (.iload_n 1, 1) := by decide +kernel
theorem dX6_may_22 : decode cX6_may 22 = .ok (.iaload, 1) := by decide +kernel
theorem dX6_may_23 : decode cX6_may 23 = .ok (.istore_n 3, 1) := by decide +kernel
theorem dX6_may_24 : decode cX6_may 24 = .ok (.aload_n 0, 1) := by decide +kernel
theorem dX6_may_25 : decode cX6_may 25 = .ok (.getfield 13, 3) := by decide +kernel
theorem dX6_may_28 : decode cX6_may 28 = .ok (.iload_n 2, 1) := by decide +kernel
theorem dX6_may_29 : decode cX6_may 29 = .ok (.iaload, 1) := by decide +kernel
theorem dX6_may_30 : decode cX6_may 30 = .ok (.istore 4, 2) := by decide +kernel
theorem dX6_may_32 : decode cX6_may 32 = .ok (.iload_n 3, 1) := by decide +kernel
theorem dX6_may_33 : decode cX6_may 33 = .ok (.istore 5, 2) := by decide +kernel
theorem dX6_may_35 : decode cX6_may 35 = .ok (.iload 5, 2) := by decide +kernel
theorem dX6_may_37 : decode cX6_may 37 = .ok (.ifCond .lt 201, 3) := by decide +kernel
theorem dX6_may_40 : decode cX6_may 40 = .ok (.iload 4, 2) := by decide +kernel
theorem dX6_may_42 : decode cX6_may 42 = .ok (.istore 6, 2) := by decide +kernel
theorem dX6_may_44 : decode cX6_may 44 = .ok (.iload 6, 2) := by decide +kernel
theorem dX6_may_46 : decode cX6_may 46 = .ok (.ifCond .lt 186, 3) := by decide +kernel
theorem dX6_may_49 : decode cX6_may 49 = .ok (.iload 5, 2) := by decide +kernel
theorem dX6_may_51 : decode cX6_may 51 = .ok (.iload_n 3, 1) := by decide +kernel
theorem dX6_may_52 : decode cX6_may 52 = .ok (.if_icmp .ne 14, 3) := by decide +kernel
theorem dX6_may_55 : decode cX6_may 55 = .ok (.iload 6, 2) := by decide +kernel
theorem dX6_may_57 : decode cX6_may 57 = .ok (.iload 4, 2) := by decide +kernel
theorem dX6_may_59 : decode cX6_may 59 = .ok (.if_icmp .ne 7, 3) := by decide +kernel
theorem dX6_may_62 : decode cX6_may 62 = .ok (.iconst 1, 1) := by decide +kernel
theorem dX6_may_63 : decode cX6_may 63 = .ok (.goto 4, 3) := by decide +kernel
theorem dX6_may_66 : decode cX6_may 66 = .ok (.iconst 0, 1) := by decide +kernel
theorem dX6_may_67 : decode cX6_may 67 = .ok (.istore 7, 2) := by decide +kernel
theorem dX6_may_69 : decode cX6_may 69 = .ok (.iload 5, 2) := by decide +kernel
theorem dX6_may_71 : decode cX6_may 71 = .ok (.iload_n 3, 1) := by decide +kernel
theorem dX6_may_72 : decode cX6_may 72 = .ok (.if_icmp .ge 72, 3) := by decide +kernel
theorem dX6_may_75 : decode cX6_may 75 = .ok (.aload_n 0, 1) := by decide +kernel
theorem dX6_may_76 : decode cX6_may 76 = .ok (.getfield 16, 3) := by decide +kernel
theorem dX6_may_79 : decode cX6_may 79 = .ok (.bipush 40, 2) := by decide +kernel
theorem dX6_may_81 : decode cX6_may 81 = .ok (.iload_n 1, 1) := by decide +kernel
theorem dX6_may_82 : decode cX6_may 82 = .ok (.imul, 1) := by decide +kernel
theorem dX6_may_83 : decode cX6_may 83 = .ok (.iload 5, 2) := by decide +kernel
theorem dX6_may_85 : decode cX6_may 85 = .ok (.iadd, 1) := by decide +kernel
theorem dX6_may_86 : decode cX6_may 86 = .ok (.iaload, 1) := by decide +kernel
theorem dX6_may_87 : decode cX6_may 87 = .ok (.iconst (-1), 1) := by decide +kernel
theorem dX6_may_88 : decode cX6_may 88 = .ok (.if_icmp .ne 56, 3) := by decide +kernel
theorem dX6_may_91 : decode cX6_may 91 = .ok (.aload_n 0, 1) := by decide +kernel
theorem dX6_may_92 : decode cX6_may 92 = .ok (.getfield 58, 3) := by decide +kernel
theorem dX6_may_95 : decode cX6_may 95 = .ok (.bipush 41, 2) := by decide +kernel
theorem dX6_may_97 : decode cX6_may 97 = .ok (.iload 5, 2) := by decide +kernel
theorem dX6_may_99 : decode cX6_may 99 = .ok (.iconst 1, 1) := by decide +kernel
theorem dX6_may_100 : decode cX6_may 100 = .ok (.iadd, 1) := by decide +kernel
theorem dX6_may_101 : decode cX6_may 101 = .ok (.imul, 1) := by decide +kernel
theorem dX6_may_102 : decode cX6_may 102 = .ok (.iload 6, 2) := by decide +kernel
theorem dX6_may_104 : decode cX6_may 104 = .ok (.iadd, 1) := by decide +kernel
theorem dX6_may_105 : decode cX6_may 105 = .ok (.baload, 1) := by decide +kernel
theorem dX6_may_106 : decode cX6_may 106 = .ok (.ifCond .ne 28, 3) := by decide +kernel
theorem dX6_may_109 : decode cX6_may 109 = .ok (.iload 6, 2) := by decide +kernel
theorem dX6_may_111 : decode cX6_may 111 = .ok (.iload 4, 2) := by decide +kernel
theorem dX6_may_113 : decode cX6_may 113 = .ok (.if_icmp .ge 25, 3) := by decide +kernel
theorem dX6_may_116 : decode cX6_may 116 = .ok (.aload_n 0, 1) := by decide +kernel
theorem dX6_may_117 : decode cX6_may 117 = .ok (.getfield 58, 3) := by decide +kernel
theorem dX6_may_120 : decode cX6_may 120 = .ok (.bipush 41, 2) := by decide +kernel
theorem dX6_may_122 : decode cX6_may 122 = .ok (.iload 5, 2) := by decide +kernel
theorem dX6_may_124 : decode cX6_may 124 = .ok (.imul, 1) := by decide +kernel
theorem dX6_may_125 : decode cX6_may 125 = .ok (.iload 6, 2) := by decide +kernel
theorem dX6_may_127 : decode cX6_may 127 = .ok (.iadd, 1) := by decide +kernel
theorem dX6_may_128 : decode cX6_may 128 = .ok (.iconst 1, 1) := by decide +kernel
theorem dX6_may_129 : decode cX6_may 129 = .ok (.iadd, 1) := by decide +kernel
theorem dX6_may_130 : decode cX6_may 130 = .ok (.baload, 1) := by decide +kernel
theorem dX6_may_131 : decode cX6_may 131 = .ok (.ifCond .eq 7, 3) := by decide +kernel
theorem dX6_may_134 : decode cX6_may 134 = .ok (.iconst 1, 1) := by decide +kernel
theorem dX6_may_135 : decode cX6_may 135 = .ok (.goto 4, 3) := by decide +kernel
theorem dX6_may_138 : decode cX6_may 138 = .ok (.iconst 0, 1) := by decide +kernel
theorem dX6_may_139 : decode cX6_may 139 = .ok (.istore 7, 2) := by decide +kernel
theorem dX6_may_141 : decode cX6_may 141 = .ok (.goto 70, 3) := by decide +kernel
theorem dX6_may_144 : decode cX6_may 144 = .ok (.iload 5, 2) := by decide +kernel
theorem dX6_may_146 : decode cX6_may 146 = .ok (.iload_n 3, 1) := by decide +kernel
theorem dX6_may_147 : decode cX6_may 147 = .ok (.if_icmp .ge 64, 3) := by decide +kernel
theorem dX6_may_150 : decode cX6_may 150 = .ok (.iload 6, 2) := by decide +kernel
theorem dX6_may_152 : decode cX6_may 152 = .ok (.iload 4, 2) := by decide +kernel
theorem dX6_may_154 : decode cX6_may 154 = .ok (.if_icmp .ge 57, 3) := by decide +kernel
theorem dX6_may_157 : decode cX6_may 157 = .ok (.aload_n 0, 1) := by decide +kernel
theorem dX6_may_158 : decode cX6_may 158 = .ok (.getfield 16, 3) := by decide +kernel
theorem dX6_may_161 : decode cX6_may 161 = .ok (.bipush 40, 2) := by decide +kernel
theorem dX6_may_163 : decode cX6_may 163 = .ok (.iload_n 1, 1) := by decide +kernel
theorem dX6_may_164 : decode cX6_may 164 = .ok (.imul, 1) := by decide +kernel
theorem dX6_may_165 : decode cX6_may 165 = .ok (.iload 5, 2) := by decide +kernel
theorem dX6_may_167 : decode cX6_may 167 = .ok (.iadd, 1) := by decide +kernel
theorem dX6_may_168 : decode cX6_may 168 = .ok (.iaload, 1) := by decide +kernel
theorem dX6_may_169 : decode cX6_may 169 = .ok (.aload_n 0, 1) := by decide +kernel
theorem dX6_may_170 : decode cX6_may 170 = .ok (.getfield 7, 3) := by decide +kernel
theorem dX6_may_173 : decode cX6_may 173 = .ok (.bipush 40, 2) := by decide +kernel
theorem dX6_may_175 : decode cX6_may 175 = .ok (.iload_n 2, 1) := by decide +kernel
theorem dX6_may_176 : decode cX6_may 176 = .ok (.imul, 1) := by decide +kernel
theorem dX6_may_177 : decode cX6_may 177 = .ok (.iload 6, 2) := by decide +kernel
theorem dX6_may_179 : decode cX6_may 179 = .ok (.iadd, 1) := by decide +kernel
theorem dX6_may_180 : decode cX6_may 180 = .ok (.iaload, 1) := by decide +kernel
theorem dX6_may_181 : decode cX6_may 181 = .ok (.if_icmp .ne 27, 3) := by decide +kernel
theorem dX6_may_184 : decode cX6_may 184 = .ok (.aload_n 0, 1) := by decide +kernel
theorem dX6_may_185 : decode cX6_may 185 = .ok (.getfield 58, 3) := by decide +kernel
theorem dX6_may_188 : decode cX6_may 188 = .ok (.bipush 41, 2) := by decide +kernel
theorem dX6_may_190 : decode cX6_may 190 = .ok (.iload 5, 2) := by decide +kernel
theorem dX6_may_192 : decode cX6_may 192 = .ok (.iconst 1, 1) := by decide +kernel
theorem dX6_may_193 : decode cX6_may 193 = .ok (.iadd, 1) := by decide +kernel
theorem dX6_may_194 : decode cX6_may 194 = .ok (.imul, 1) := by decide +kernel
theorem dX6_may_195 : decode cX6_may 195 = .ok (.iload 6, 2) := by decide +kernel
theorem dX6_may_197 : decode cX6_may 197 = .ok (.iadd, 1) := by decide +kernel
theorem dX6_may_198 : decode cX6_may 198 = .ok (.iconst 1, 1) := by decide +kernel
theorem dX6_may_199 : decode cX6_may 199 = .ok (.iadd, 1) := by decide +kernel
theorem dX6_may_200 : decode cX6_may 200 = .ok (.baload, 1) := by decide +kernel
theorem dX6_may_201 : decode cX6_may 201 = .ok (.ifCond .eq 7, 3) := by decide +kernel
theorem dX6_may_204 : decode cX6_may 204 = .ok (.iconst 1, 1) := by decide +kernel
theorem dX6_may_205 : decode cX6_may 205 = .ok (.goto 4, 3) := by decide +kernel
theorem dX6_may_208 : decode cX6_may 208 = .ok (.iconst 0, 1) := by decide +kernel
theorem dX6_may_209 : decode cX6_may 209 = .ok (.istore 7, 2) := by decide +kernel
theorem dX6_may_211 : decode cX6_may 211 = .ok (.aload_n 0, 1) := by decide +kernel
theorem dX6_may_212 : decode cX6_may 212 = .ok (.getfield 58, 3) := by decide +kernel
theorem dX6_may_215 : decode cX6_may 215 = .ok (.bipush 41, 2) := by decide +kernel
theorem dX6_may_217 : decode cX6_may 217 = .ok (.iload 5, 2) := by decide +kernel
theorem dX6_may_219 : decode cX6_may 219 = .ok (.imul, 1) := by decide +kernel
theorem dX6_may_220 : decode cX6_may 220 = .ok (.iload 6, 2) := by decide +kernel
theorem dX6_may_222 : decode cX6_may 222 = .ok (.iadd, 1) := by decide +kernel
theorem dX6_may_223 : decode cX6_may 223 = .ok (.iload 7, 2) := by decide +kernel
theorem dX6_may_225 : decode cX6_may 225 = .ok (.bastore, 1) := by decide +kernel
theorem dX6_may_226 : decode cX6_may 226 = .ok (.iinc 6 (-1), 3) := by decide +kernel
theorem dX6_may_229 : decode cX6_may 229 = .ok (.goto (-185), 3) := by decide +kernel
theorem dX6_may_232 : decode cX6_may 232 = .ok (.iinc 5 (-1), 3) := by decide +kernel
theorem dX6_may_235 : decode cX6_may 235 = .ok (.goto (-200), 3) := by decide +kernel
theorem dX6_may_238 : decode cX6_may 238 = .ok (.aload_n 0, 1) := by decide +kernel
theorem dX6_may_239 : decode cX6_may 239 = .ok (.getfield 58, 3) := by decide +kernel
theorem dX6_may_242 : decode cX6_may 242 = .ok (.iconst 0, 1) := by decide +kernel
theorem dX6_may_243 : decode cX6_may 243 = .ok (.baload, 1) := by decide +kernel
theorem dX6_may_244 : decode cX6_may 244 = .ok (.ifCond .eq 7, 3) := by decide +kernel
theorem dX6_may_247 : decode cX6_may 247 = .ok (.iconst 1, 1) := by decide +kernel
theorem dX6_may_248 : decode cX6_may 248 = .ok (.goto 4, 3) := by decide +kernel
theorem dX6_may_251 : decode cX6_may 251 = .ok (.iconst 0, 1) := by decide +kernel
theorem dX6_may_252 : decode cX6_may 252 = .ok (.ireturn, 1) := by decide +kernel
theorem dX6_mark_0 : decode cX6_mark 0 = .ok (.iload_n 1, 1) := by decide +kernel
theorem dX6_mark_1 : decode cX6_mark 1 = .ok (.invokestatic 70, 3) := by decide +kernel
theorem dX6_mark_4 : decode cX6_mark 4 = .ok (.ifCond .eq 14, 3) := by decide +kernel
theorem dX6_mark_7 : decode cX6_mark 7 = .ok (.iload_n 2, 1) := by decide +kernel
theorem dX6_mark_8 : decode cX6_mark 8 = .ok (.iconst 0, 1) := by decide +kernel
theorem dX6_mark_9 : decode cX6_mark 9 = .ok (.sipush 255, 3) := by decide +kernel
theorem dX6_mark_12 : decode cX6_mark 12 = .ok (.invokestatic 62, 3) := by decide +kernel
theorem dX6_mark_15 : decode cX6_mark 15 = .ok (.ifCond .ne 6, 3) := by decide +kernel
theorem dX6_mark_18 : decode cX6_mark 18 = .ok (.bipush (-2), 2) := by decide +kernel
theorem dX6_mark_20 : decode cX6_mark 20 = .ok (.ireturn, 1) := by decide +kernel
theorem dX6_mark_21 : decode cX6_mark 21 = .ok (.aload_n 0, 1) := by decide +kernel
theorem dX6_mark_22 : decode cX6_mark 22 = .ok (.getfield 31, 3) := by decide +kernel
theorem dX6_mark_25 : decode cX6_mark 25 = .ok (.iload_n 1, 1) := by decide +kernel
theorem dX6_mark_26 : decode cX6_mark 26 = .ok (.iaload, 1) := by decide +kernel
theorem dX6_mark_27 : decode cX6_mark 27 = .ok (.istore_n 3, 1) := by decide +kernel
theorem dX6_mark_28 : decode cX6_mark 28 = .ok (.aload_n 0, 1) := by decide +kernel
theorem dX6_mark_29 : decode cX6_mark 29 = .ok (.getfield 31, 3) := by decide +kernel
theorem dX6_mark_32 : decode cX6_mark 32 = .ok (.iload_n 1, 1) := by decide +kernel
theorem dX6_mark_33 : decode cX6_mark 33 = .ok (.iload_n 2, 1) := by decide +kernel
theorem dX6_mark_34 : decode cX6_mark 34 = .ok (.iastore, 1) := by decide +kernel
theorem dX6_mark_35 : decode cX6_mark 35 = .ok (.iload_n 3, 1) := by decide +kernel
theorem dX6_mark_36 : decode cX6_mark 36 = .ok (.ireturn, 1) := by decide +kernel
theorem dX6_isTown_0 : decode cX6_isTown 0 = .ok (.iload_n 0, 1) := by decide +kernel
theorem dX6_isTown_1 : decode cX6_isTown 1 = .ok (.iconst 0, 1) := by decide +kernel
theorem dX6_isTown_2 : decode cX6_isTown 2 = .ok (.bipush 7, 2) := by decide +kernel
theorem dX6_isTown_4 : decode cX6_isTown 4 = .ok (.invokestatic 62, 3) := by decide +kernel
theorem dX6_isTown_7 : decode cX6_isTown 7 = .ok (.ireturn, 1) := by decide +kernel
theorem dX6_isDay_0 : decode cX6_isDay 0 = .ok (.iload_n 0, 1) := by decide +kernel
theorem dX6_isDay_1 : decode cX6_isDay 1 = .ok (.iconst 0, 1) := by decide +kernel
theorem dX6_isDay_2 : decode cX6_isDay 2 = .ok (.sipush 999, 3) := by decide +kernel
theorem dX6_isDay_5 : decode cX6_isDay 5 = .ok (.invokestatic 62, 3) := by decide +kernel
theorem dX6_isDay_8 : decode cX6_isDay 8 = .ok (.ireturn, 1) := by decide +kernel
theorem dX6_rule_0 : decode cX6_rule 0 = .ok (.iload_n 1, 1) := by decide +kernel
theorem dX6_rule_1 : decode cX6_rule 1 = .ok (.invokestatic 95, 3) := by decide +kernel
theorem dX6_rule_4 : decode cX6_rule 4 = .ok (.ifCond .eq 35, 3) := by decide +kernel
theorem dX6_rule_7 : decode cX6_rule 7 = .ok (.iload_n 2, 1) := by decide +kernel
theorem dX6_rule_8 : decode cX6_rule 8 = .ok (.iconst 0, 1) := by decide +kernel
theorem dX6_rule_9 : decode cX6_rule 9 = .ok (.sipush 255, 3) := by decide +kernel
theorem dX6_rule_12 : decode cX6_rule 12 = .ok (.invokestatic 62, 3) := by decide +kernel
theorem dX6_rule_15 : decode cX6_rule 15 = .ok (.ifCond .eq 24, 3) := by decide +kernel
theorem dX6_rule_18 : decode cX6_rule 18 = .ok (.iload_n 3, 1) := by decide +kernel
theorem dX6_rule_19 : decode cX6_rule 19 = .ok (.invokestatic 98, 3) := by decide +kernel
theorem dX6_rule_22 : decode cX6_rule 22 = .ok (.ifCond .eq 17, 3) := by decide +kernel
theorem dX6_rule_25 : decode cX6_rule 25 = .ok (.iload 4, 2) := by decide +kernel
theorem dX6_rule_27 : decode cX6_rule 27 = .ok (.invokestatic 98, 3) := by decide +kernel
theorem dX6_rule_30 : decode cX6_rule 30 = .ok (.ifCond .eq 9, 3) := by decide +kernel
theorem dX6_rule_33 : decode cX6_rule 33 = .ok (.iload_n 3, 1) := by decide +kernel
theorem dX6_rule_34 : decode cX6_rule 34 = .ok (.iload 4, 2) := by decide +kernel
theorem dX6_rule_36 : decode cX6_rule 36 = .ok (.if_icmp .le 6, 3) := by decide +kernel
theorem dX6_rule_39 : decode cX6_rule 39 = .ok (.bipush (-2), 2) := by decide +kernel
theorem dX6_rule_41 : decode cX6_rule 41 = .ok (.ireturn, 1) := by decide +kernel
theorem dX6_rule_42 : decode cX6_rule 42 = .ok (.aload_n 0, 1) := by decide +kernel
theorem dX6_rule_43 : decode cX6_rule 43 = .ok (.getfield 101, 3) := by decide +kernel
theorem dX6_rule_46 : decode cX6_rule 46 = .ok (.bipush 20, 2) := by decide +kernel
theorem dX6_rule_48 : decode cX6_rule 48 = .ok (.if_icmp .ne 6, 3) := by decide +kernel
theorem dX6_rule_51 : decode cX6_rule 51 = .ok (.bipush (-4), 2) := by decide +kernel
theorem dX6_rule_53 : decode cX6_rule 53 = .ok (.ireturn, 1) := by decide +kernel
theorem dX6_rule_54 : decode cX6_rule 54 = .ok (.aload_n 0, 1) := by decide +kernel
theorem dX6_rule_55 : decode cX6_rule 55 = .ok (.getfield 34, 3) := by decide +kernel
theorem dX6_rule_58 : decode cX6_rule 58 = .ok (.aload_n 0, 1) := by decide +kernel
theorem dX6_rule_59 : decode cX6_rule 59 = .ok (.getfield 101, 3) := by decide +kernel
theorem dX6_rule_62 : decode cX6_rule 62 = .ok (.iload_n 1, 1) := by decide +kernel
theorem dX6_rule_63 : decode cX6_rule 63 = .ok (.iastore, 1) := by decide +kernel
theorem dX6_rule_64 : decode cX6_rule 64 = .ok (.aload_n 0, 1) := by decide +kernel
theorem dX6_rule_65 : decode cX6_rule 65 = .ok (.getfield 37, 3) := by decide +kernel
theorem dX6_rule_68 : decode cX6_rule 68 = .ok (.aload_n 0, 1) := by decide +kernel
theorem dX6_rule_69 : decode cX6_rule 69 = .ok (.getfield 101, 3) := by decide +kernel
theorem dX6_rule_72 : decode cX6_rule 72 = .ok (.iload_n 2, 1) := by decide +kernel
theorem dX6_rule_73 : decode cX6_rule 73 = .ok (.iastore, 1) := by decide +kernel
theorem dX6_rule_74 : decode cX6_rule 74 = .ok (.aload_n 0, 1) := by decide +kernel
theorem dX6_rule_75 : decode cX6_rule 75 = .ok (.getfield 40, 3) := by decide +kernel
theorem dX6_rule_78 : decode cX6_rule 78 = .ok (.aload_n 0, 1) := by decide +kernel
theorem dX6_rule_79 : decode cX6_rule 79 = .ok (.getfield 101, 3) := by decide +kernel
theorem dX6_rule_82 : decode cX6_rule 82 = .ok (.iload_n 3, 1) := by decide +kernel
theorem dX6_rule_83 : decode cX6_rule 83 = .ok (.iastore, 1) := by decide +kernel
theorem dX6_rule_84 : decode cX6_rule 84 = .ok (.aload_n 0, 1) := by decide +kernel
theorem dX6_rule_85 : decode cX6_rule 85 = .ok (.getfield 43, 3) := by decide +kernel
theorem dX6_rule_88 : decode cX6_rule 88 = .ok (.aload_n 0, 1) := by decide +kernel
theorem dX6_rule_89 : decode cX6_rule 89 = .ok (.getfield 101, 3) := by decide +kernel
theorem dX6_rule_92 : decode cX6_rule 92 = .ok (.iload 4, 2) := by decide +kernel
theorem dX6_rule_94 : decode cX6_rule 94 = .ok (.iastore, 1) := by decide +kernel
theorem dX6_rule_95 : decode cX6_rule 95 = .ok (.aload_n 0, 1) := by decide +kernel
theorem dX6_rule_96 : decode cX6_rule 96 = .ok (.dup, 1) := by decide +kernel
theorem dX6_rule_97 : decode cX6_rule 97 = .ok (.getfield 101, 3) := by decide +kernel
theorem dX6_rule_100 : decode cX6_rule 100 = .ok (.iconst 1, 1) := by decide +kernel
theorem dX6_rule_101 : decode cX6_rule 101 = .ok (.iadd, 1) := by decide +kernel
theorem dX6_rule_102 : decode cX6_rule 102 = .ok (.putfield 101, 3) := by decide +kernel
theorem dX6_rule_105 : decode cX6_rule 105 = .ok (.aload_n 0, 1) := by decide +kernel
theorem dX6_rule_106 : decode cX6_rule 106 = .ok (.getfield 101, 3) := by decide +kernel
theorem dX6_rule_109 : decode cX6_rule 109 = .ok (.iconst 1, 1) := by decide +kernel
theorem dX6_rule_110 : decode cX6_rule 110 = .ok (.isub, 1) := by decide +kernel
theorem dX6_rule_111 : decode cX6_rule 111 = .ok (.ireturn, 1) := by decide +kernel
theorem dX6_forbidden_0 : decode cX6_forbidden 0 = .ok (.iconst 0, 1) := by decide +kernel
theorem dX6_forbidden_1 : decode cX6_forbidden 1 = .ok (.istore_n 3, 1) := by decide +kernel
theorem dX6_forbidden_2 : decode cX6_forbidden 2 = .ok (.iconst 0, 1) := by decide +kernel
theorem dX6_forbidden_3 : decode cX6_forbidden 3 = .ok (.istore 4, 2) := by decide +kernel
theorem dX6_forbidden_5 : decode cX6_forbidden 5 = .ok (.iload 4, 2) := by decide +kernel
theorem dX6_forbidden_7 : decode cX6_forbidden 7 = .ok (.aload_n 0, 1) := by decide +kernel
theorem dX6_forbidden_8 : decode cX6_forbidden 8 = .ok (.getfield 101, 3) := by decide +kernel
theorem dX6_forbidden_11 : decode cX6_forbidden 11 = .ok (.if_icmp .ge 56, 3) := by decide +kernel
theorem dX6_forbidden_14 : decode cX6_forbidden 14 = .ok (.iload_n 3, 1) := by decide +kernel
theorem dX6_forbidden_15 : decode cX6_forbidden 15 = .ok (.aload_n 0, 1) := by decide +kernel
theorem dX6_forbidden_16 : decode cX6_forbidden 16 = .ok (.getfield 34, 3) := by decide +kernel
theorem dX6_forbidden_19 : decode cX6_forbidden 19 = .ok (.iload 4, 2) := by decide +kernel
theorem dX6_forbidden_21 : decode cX6_forbidden 21 = .ok (.iaload, 1) := by decide +kernel
theorem dX6_forbidden_22 : decode cX6_forbidden 22 = .ok (.iload_n 1, 1) := by decide +kernel
theorem dX6_forbidden_23 : decode cX6_forbidden 23 = .ok (.if_icmp .ne 35, 3) := by decide +kernel
theorem dX6_forbidden_26 : decode cX6_forbidden 26 = .ok (.iload_n 2, 1) := by decide +kernel
theorem dX6_forbidden_27 : decode cX6_forbidden 27 = .ok (.aload_n 0, 1) := by decide +kernel
theorem dX6_forbidden_28 : decode cX6_forbidden 28 = .ok (.getfield 40, 3) := by decide +kernel
theorem dX6_forbidden_31 : decode cX6_forbidden 31 = .ok (.iload 4, 2) := by decide +kernel
theorem dX6_forbidden_33 : decode cX6_forbidden 33 = .ok (.iaload, 1) := by decide +kernel
theorem dX6_forbidden_34 : decode cX6_forbidden 34 = .ok (.if_icmp .lt 24, 3) := by decide +kernel
theorem dX6_forbidden_37 : decode cX6_forbidden 37 = .ok (.iload_n 2, 1) := by decide +kernel
theorem dX6_forbidden_38 : decode cX6_forbidden 38 = .ok (.aload_n 0, 1) := by decide +kernel
theorem dX6_forbidden_39 : decode cX6_forbidden 39 = .ok (.getfield 43, 3) := by decide +kernel
theorem dX6_forbidden_42 : decode cX6_forbidden 42 = .ok (.iload 4, 2) := by decide +kernel
theorem dX6_forbidden_44 : decode cX6_forbidden 44 = .ok (.iaload, 1) := by decide +kernel
theorem dX6_forbidden_45 : decode cX6_forbidden 45 = .ok (.if_icmp .gt 13, 3) := by decide +kernel
theorem dX6_forbidden_48 : decode cX6_forbidden 48 = .ok (.aload_n 0, 1) := by decide +kernel
theorem dX6_forbidden_49 : decode cX6_forbidden 49 = .ok (.getfield 37, 3) := by decide +kernel
theorem dX6_forbidden_52 : decode cX6_forbidden 52 = .ok (.iload 4, 2) := by decide +kernel
theorem dX6_forbidden_54 : decode cX6_forbidden 54 = .ok (.iaload, 1) := by decide +kernel
theorem dX6_forbidden_55 : decode cX6_forbidden 55 = .ok (.goto 4, 3) := by decide +kernel
theorem dX6_forbidden_58 : decode cX6_forbidden 58 = .ok (.iconst 0, 1) := by decide +kernel
theorem dX6_forbidden_59 : decode cX6_forbidden 59 = .ok (.ior, 1) := by decide +kernel
theorem dX6_forbidden_60 : decode cX6_forbidden 60 = .ok (.istore_n 3, 1) := by decide +kernel
theorem dX6_forbidden_61 : decode cX6_forbidden 61 = .ok (.iinc 4 1, 3) := by decide +kernel
theorem dX6_forbidden_64 : decode cX6_forbidden 64 = .ok (.goto (-59), 3) := by decide +kernel
theorem dX6_forbidden_67 : decode cX6_forbidden 67 = .ok (.iload_n 3, 1) := by decide +kernel
theorem dX6_forbidden_68 : decode cX6_forbidden 68 = .ok (.ireturn, 1) := by decide +kernel
theorem dX6_cutOf_0 : decode cX6_cutOf 0 = .ok (.aload_n 0, 1) := by decide +kernel
theorem dX6_cutOf_1 : decode cX6_cutOf 1 = .ok (.iload_n 2, 1) := by decide +kernel
theorem dX6_cutOf_2 : decode cX6_cutOf 2 = .ok (.iload_n 3, 1) := by decide +kernel
theorem dX6_cutOf_3 : decode cX6_cutOf 3 = .ok (.invokevirtual 104, 3) := by decide +kernel
theorem dX6_cutOf_6 : decode cX6_cutOf 6 = .ok (.istore 4, 2) := by decide +kernel
theorem dX6_cutOf_8 : decode cX6_cutOf 8 = .ok (.iconst 0, 1) := by decide +kernel
theorem dX6_cutOf_9 : decode cX6_cutOf 9 = .ok (.istore 5, 2) := by decide +kernel
theorem dX6_cutOf_11 : decode cX6_cutOf 11 = .ok (.iconst 0, 1) := by decide +kernel
theorem dX6_cutOf_12 : decode cX6_cutOf 12 = .ok (.istore 6, 2) := by decide +kernel
theorem dX6_cutOf_14 : decode cX6_cutOf 14 = .ok (.iload 6, 2) := by decide +kernel
theorem dX6_cutOf_16 : decode cX6_cutOf 16 = .ok (.aload_n 0, 1) := by decide +kernel
theorem dX6_cutOf_17 : decode cX6_cutOf 17 = .ok (.getfield 13, 3) := by decide +kernel
theorem dX6_cutOf_20 : decode cX6_cutOf 20 = .ok (.iload_n 1, 1) := by decide +kernel
theorem dX6_cutOf_21 : decode cX6_cutOf 21 = .ok (.iaload, 1) := by decide +kernel
theorem dX6_cutOf_22 : decode cX6_cutOf 22 = .ok (.if_icmp .ge 42, 3) := by decide +kernel
theorem dX6_cutOf_25 : decode cX6_cutOf 25 = .ok (.iload 5, 2) := by decide +kernel
theorem dX6_cutOf_27 : decode cX6_cutOf 27 = .ok (.aload_n 0, 1) := by decide +kernel
theorem dX6_cutOf_28 : decode cX6_cutOf 28 = .ok (.getfield 31, 3) := by decide +kernel
theorem dX6_cutOf_31 : decode cX6_cutOf 31 = .ok (.aload_n 0, 1) := by decide +kernel
theorem dX6_cutOf_32 : decode cX6_cutOf 32 = .ok (.getfield 7, 3) := by decide +kernel
theorem dX6_cutOf_35 : decode cX6_cutOf 35 = .ok (.bipush 40, 2) := by decide +kernel
theorem dX6_cutOf_37 : decode cX6_cutOf 37 = .ok (.iload_n 1, 1) := by decide +kernel
theorem dX6_cutOf_38 : decode cX6_cutOf 38 = .ok (.imul, 1) := by decide +kernel
theorem dX6_cutOf_39 : decode cX6_cutOf 39 = .ok (.iload 6, 2) := by decide +kernel
theorem dX6_cutOf_41 : decode cX6_cutOf 41 = .ok (.iadd, 1) := by decide +kernel
theorem dX6_cutOf_42 : decode cX6_cutOf 42 = .ok (.iaload, 1) := by decide +kernel
theorem dX6_cutOf_43 : decode cX6_cutOf 43 = .ok (.iaload, 1) := by decide +kernel
theorem dX6_cutOf_44 : decode cX6_cutOf 44 = .ok (.iload 4, 2) := by decide +kernel
theorem dX6_cutOf_46 : decode cX6_cutOf 46 = .ok (.iand, 1) := by decide +kernel
theorem dX6_cutOf_47 : decode cX6_cutOf 47 = .ok (.ifCond .eq 7, 3) := by decide +kernel
theorem dX6_cutOf_50 : decode cX6_cutOf 50 = .ok (.iconst 1, 1) := by decide +kernel
theorem dX6_cutOf_51 : decode cX6_cutOf 51 = .ok (.goto 4, 3) := by decide +kernel
theorem dX6_cutOf_54 : decode cX6_cutOf 54 = .ok (.iconst 0, 1) := by decide +kernel
theorem dX6_cutOf_55 : decode cX6_cutOf 55 = .ok (.iadd, 1) := by decide +kernel
theorem dX6_cutOf_56 : decode cX6_cutOf 56 = .ok (.istore 5, 2) := by decide +kernel
theorem dX6_cutOf_58 : decode cX6_cutOf 58 = .ok (.iinc 6 1, 3) := by decide +kernel
theorem dX6_cutOf_61 : decode cX6_cutOf 61 = .ok (.goto (-47), 3) := by decide +kernel
theorem dX6_cutOf_64 : decode cX6_cutOf 64 = .ok (.iload 5, 2) := by decide +kernel
theorem dX6_cutOf_66 : decode cX6_cutOf 66 = .ok (.ireturn, 1) := by decide +kernel
theorem dX6_cut_0 : decode cX6_cut 0 = .ok (.iload_n 1, 1) := by decide +kernel
theorem dX6_cut_1 : decode cX6_cut 1 = .ok (.invokestatic 66, 3) := by decide +kernel
theorem dX6_cut_4 : decode cX6_cut 4 = .ok (.ifCond .eq 27, 3) := by decide +kernel
theorem dX6_cut_7 : decode cX6_cut 7 = .ok (.iload_n 2, 1) := by decide +kernel
theorem dX6_cut_8 : decode cX6_cut 8 = .ok (.invokestatic 95, 3) := by decide +kernel
theorem dX6_cut_11 : decode cX6_cut 11 = .ok (.ifCond .eq 20, 3) := by decide +kernel
theorem dX6_cut_14 : decode cX6_cut 14 = .ok (.iload_n 3, 1) := by decide +kernel
theorem dX6_cut_15 : decode cX6_cut 15 = .ok (.invokestatic 98, 3) := by decide +kernel
theorem dX6_cut_18 : decode cX6_cut 18 = .ok (.ifCond .eq 13, 3) := by decide +kernel
theorem dX6_cut_21 : decode cX6_cut 21 = .ok (.aload_n 0, 1) := by decide +kernel
theorem dX6_cut_22 : decode cX6_cut 22 = .ok (.iload_n 1, 1) := by decide +kernel
theorem dX6_cut_23 : decode cX6_cut 23 = .ok (.iload_n 2, 1) := by decide +kernel
theorem dX6_cut_24 : decode cX6_cut 24 = .ok (.iload_n 3, 1) := by decide +kernel
theorem dX6_cut_25 : decode cX6_cut 25 = .ok (.invokevirtual 107, 3) := by decide +kernel
theorem dX6_cut_28 : decode cX6_cut 28 = .ok (.goto 5, 3) := by decide +kernel
theorem dX6_cut_31 : decode cX6_cut 31 = .ok (.bipush (-2), 2) := by decide +kernel
theorem dX6_cut_33 : decode cX6_cut 33 = .ok (.ireturn, 1) := by decide +kernel
theorem dX6_fit_0 : decode cX6_fit 0 = .ok (.iload_n 1, 1) := by decide +kernel
theorem dX6_fit_1 : decode cX6_fit 1 = .ok (.invokestatic 66, 3) := by decide +kernel
theorem dX6_fit_4 : decode cX6_fit 4 = .ok (.ifCond .eq 25, 3) := by decide +kernel
theorem dX6_fit_7 : decode cX6_fit 7 = .ok (.iload_n 2, 1) := by decide +kernel
theorem dX6_fit_8 : decode cX6_fit 8 = .ok (.invokestatic 95, 3) := by decide +kernel
theorem dX6_fit_11 : decode cX6_fit 11 = .ok (.ifCond .eq 18, 3) := by decide +kernel
theorem dX6_fit_14 : decode cX6_fit 14 = .ok (.iload_n 3, 1) := by decide +kernel
theorem dX6_fit_15 : decode cX6_fit 15 = .ok (.invokestatic 98, 3) := by decide +kernel
theorem dX6_fit_18 : decode cX6_fit 18 = .ok (.ifCond .eq 11, 3) := by decide +kernel
theorem dX6_fit_21 : decode cX6_fit 21 = .ok (.iload 4, 2) := by decide +kernel
theorem dX6_fit_23 : decode cX6_fit 23 = .ok (.invokestatic 66, 3) := by decide +kernel
theorem dX6_fit_26 : decode cX6_fit 26 = .ok (.ifCond .ne 6, 3) := by decide +kernel
theorem dX6_fit_29 : decode cX6_fit 29 = .ok (.bipush (-2), 2) := by decide +kernel
theorem dX6_fit_31 : decode cX6_fit 31 = .ok (.ireturn, 1) := by decide +kernel
theorem dX6_fit_32 : decode cX6_fit 32 = .ok (.aload_n 0, 1) := by decide +kernel
theorem dX6_fit_33 : decode cX6_fit 33 = .ok (.iload_n 2, 1) := by decide +kernel
theorem dX6_fit_34 : decode cX6_fit 34 = .ok (.iload_n 3, 1) := by decide +kernel
theorem dX6_fit_35 : decode cX6_fit 35 = .ok (.invokevirtual 104, 3) := by decide +kernel
theorem dX6_fit_38 : decode cX6_fit 38 = .ok (.istore 5, 2) := by decide +kernel
theorem dX6_fit_40 : decode cX6_fit 40 = .ok (.iconst 0, 1) := by decide +kernel
theorem dX6_fit_41 : decode cX6_fit 41 = .ok (.istore 6, 2) := by decide +kernel
theorem dX6_fit_43 : decode cX6_fit 43 = .ok (.aload_n 0, 1) := by decide +kernel
theorem dX6_fit_44 : decode cX6_fit 44 = .ok (.getfield 13, 3) := by decide +kernel
theorem dX6_fit_47 : decode cX6_fit 47 = .ok (.iload_n 1, 1) := by decide +kernel
theorem dX6_fit_48 : decode cX6_fit 48 = .ok (.iaload, 1) := by decide +kernel
theorem dX6_fit_49 : decode cX6_fit 49 = .ok (.istore 7, 2) := by decide +kernel
theorem dX6_fit_51 : decode cX6_fit 51 = .ok (.iconst 0, 1) := by decide +kernel
theorem dX6_fit_52 : decode cX6_fit 52 = .ok (.istore 8, 2) := by decide +kernel
theorem dX6_fit_54 : decode cX6_fit 54 = .ok (.iload 8, 2) := by decide +kernel
theorem dX6_fit_56 : decode cX6_fit 56 = .ok (.iload 7, 2) := by decide +kernel
theorem dX6_fit_58 : decode cX6_fit 58 = .ok (.if_icmp .ge 54, 3) := by decide +kernel
theorem dX6_fit_61 : decode cX6_fit 61 = .ok (.aload_n 0, 1) := by decide +kernel
theorem dX6_fit_62 : decode cX6_fit 62 = .ok (.getfield 7, 3) := by decide +kernel
theorem dX6_fit_65 : decode cX6_fit 65 = .ok (.bipush 40, 2) := by decide +kernel
theorem dX6_fit_67 : decode cX6_fit 67 = .ok (.iload_n 1, 1) := by decide +kernel
theorem dX6_fit_68 : decode cX6_fit 68 = .ok (.imul, 1) := by decide +kernel
theorem dX6_fit_69 : decode cX6_fit 69 = .ok (.iload 8, 2) := by decide +kernel
theorem dX6_fit_71 : decode cX6_fit 71 = .ok (.iadd, 1) := by decide +kernel
theorem dX6_fit_72 : decode cX6_fit 72 = .ok (.iaload, 1) := by decide +kernel
theorem dX6_fit_73 : decode cX6_fit 73 = .ok (.istore 9, 2) := by decide +kernel
theorem dX6_fit_75 : decode cX6_fit 75 = .ok (.aload_n 0, 1) := by decide +kernel
theorem dX6_fit_76 : decode cX6_fit 76 = .ok (.getfield 31, 3) := by decide +kernel
theorem dX6_fit_79 : decode cX6_fit 79 = .ok (.iload 9, 2) := by decide +kernel
theorem dX6_fit_81 : decode cX6_fit 81 = .ok (.iaload, 1) := by decide +kernel
theorem dX6_fit_82 : decode cX6_fit 82 = .ok (.iload 5, 2) := by decide +kernel
theorem dX6_fit_84 : decode cX6_fit 84 = .ok (.iand, 1) := by decide +kernel
theorem dX6_fit_85 : decode cX6_fit 85 = .ok (.ifCond .ne 21, 3) := by decide +kernel
theorem dX6_fit_88 : decode cX6_fit 88 = .ok (.aload_n 0, 1) := by decide +kernel
theorem dX6_fit_89 : decode cX6_fit 89 = .ok (.getfield 7, 3) := by decide +kernel
theorem dX6_fit_92 : decode cX6_fit 92 = .ok (.bipush 40, 2) := by decide +kernel
theorem dX6_fit_94 : decode cX6_fit 94 = .ok (.iload 4, 2) := by decide +kernel
theorem dX6_fit_96 : decode cX6_fit 96 = .ok (.imul, 1) := by decide +kernel
theorem dX6_fit_97 : decode cX6_fit 97 = .ok (.iload 6, 2) := by decide +kernel
theorem dX6_fit_99 : decode cX6_fit 99 = .ok (.iadd, 1) := by decide +kernel
theorem dX6_fit_100 : decode cX6_fit 100 = .ok (.iload 9, 2) := by decide +kernel
theorem dX6_fit_102 : decode cX6_fit 102 = .ok (.iastore, 1) := by decide +kernel
theorem dX6_fit_103 : decode cX6_fit 103 = .ok (.iinc 6 1, 3) := by decide +kernel
theorem dX6_fit_106 : decode cX6_fit 106 = .ok (.iinc 8 1, 3) := by decide +kernel
theorem dX6_fit_109 : decode cX6_fit 109 = .ok (.goto (-55), 3) := by decide +kernel
theorem dX6_fit_112 : decode cX6_fit 112 = .ok (.aload_n 0, 1) := by decide +kernel
theorem dX6_fit_113 : decode cX6_fit 113 = .ok (.getfield 13, 3) := by decide +kernel
theorem dX6_fit_116 : decode cX6_fit 116 = .ok (.iload 4, 2) := by decide +kernel
theorem dX6_fit_118 : decode cX6_fit 118 = .ok (.iload 6, 2) := by decide +kernel
theorem dX6_fit_120 : decode cX6_fit 120 = .ok (.iastore, 1) := by decide +kernel
theorem dX6_fit_121 : decode cX6_fit 121 = .ok (.iload 6, 2) := by decide +kernel
theorem dX6_fit_123 : decode cX6_fit 123 = .ok (.ireturn, 1) := by decide +kernel
theorem dX6_many_0 : decode cX6_many 0 = .ok (.iconst 0, 1) := by decide +kernel
theorem dX6_many_1 : decode cX6_many 1 = .ok (.istore_n 1, 1) := by decide +kernel
theorem dX6_many_2 : decode cX6_many 2 = .ok (.iconst 0, 1) := by decide +kernel
theorem dX6_many_3 : decode cX6_many 3 = .ok (.istore_n 2, 1) := by decide +kernel
theorem dX6_many_4 : decode cX6_many 4 = .ok (.iload_n 2, 1) := by decide +kernel
theorem dX6_many_5 : decode cX6_many 5 = .ok (.bipush 8, 2) := by decide +kernel
theorem dX6_many_7 : decode cX6_many 7 = .ok (.if_icmp .ge 17, 3) := by decide +kernel
theorem dX6_many_10 : decode cX6_many 10 = .ok (.iload_n 1, 1) := by decide +kernel
theorem dX6_many_11 : decode cX6_many 11 = .ok (.iload_n 0, 1) := by decide +kernel
theorem dX6_many_12 : decode cX6_many 12 = .ok (.iload_n 2, 1) := by decide +kernel
theorem dX6_many_13 : decode cX6_many 13 = .ok (.ishr, 1) := by decide +kernel
theorem dX6_many_14 : decode cX6_many 14 = .ok (.iconst 1, 1) := by decide +kernel
theorem dX6_many_15 : decode cX6_many 15 = .ok (.iand, 1) := by decide +kernel
theorem dX6_many_16 : decode cX6_many 16 = .ok (.iadd, 1) := by decide +kernel
theorem dX6_many_17 : decode cX6_many 17 = .ok (.istore_n 1, 1) := by decide +kernel
theorem dX6_many_18 : decode cX6_many 18 = .ok (.iinc 2 1, 3) := by decide +kernel
theorem dX6_many_21 : decode cX6_many 21 = .ok (.goto (-17), 3) := by decide +kernel
theorem dX6_many_24 : decode cX6_many 24 = .ok (.iload_n 1, 1) := by decide +kernel
theorem dX6_many_25 : decode cX6_many 25 = .ok (.ireturn, 1) := by decide +kernel
theorem dX6_tour_0 : decode cX6_tour 0 = .ok (.iload_n 1, 1) := by decide +kernel
theorem dX6_tour_1 : decode cX6_tour 1 = .ok (.invokestatic 66, 3) := by decide +kernel
theorem dX6_tour_4 : decode cX6_tour 4 = .ok (.ifCond .eq 32, 3) := by decide +kernel
theorem dX6_tour_7 : decode cX6_tour 7 = .ok (.iload_n 2, 1) := by decide +kernel
theorem dX6_tour_8 : decode cX6_tour 8 = .ok (.iconst 1, 1) := by decide +kernel
theorem dX6_tour_9 : decode cX6_tour 9 = .ok (.sipush 255, 3) := by decide +kernel
theorem dX6_tour_12 : decode cX6_tour 12 = .ok (.invokestatic 62, 3) := by decide +kernel
theorem dX6_tour_15 : decode cX6_tour 15 = .ok (.ifCond .eq 21, 3) := by decide +kernel
theorem dX6_tour_18 : decode cX6_tour 18 = .ok (.iload_n 3, 1) := by decide +kernel
theorem dX6_tour_19 : decode cX6_tour 19 = .ok (.invokestatic 98, 3) := by decide +kernel
theorem dX6_tour_22 : decode cX6_tour 22 = .ok (.ifCond .eq 14, 3) := by decide +kernel
theorem dX6_tour_25 : decode cX6_tour 25 = .ok (.iload 4, 2) := by decide +kernel
theorem dX6_tour_27 : decode cX6_tour 27 = .ok (.iconst 0, 1) := by decide +kernel
theorem dX6_tour_28 : decode cX6_tour 28 = .ok (.bipush 20, 2) := by decide +kernel
theorem dX6_tour_30 : decode cX6_tour 30 = .ok (.invokestatic 62, 3) := by decide +kernel
theorem dX6_tour_33 : decode cX6_tour 33 = .ok (.ifCond .ne 6, 3) := by decide +kernel
theorem dX6_tour_36 : decode cX6_tour 36 = .ok (.bipush (-2), 2) := by decide +kernel
theorem dX6_tour_38 : decode cX6_tour 38 = .ok (.ireturn, 1) := by decide +kernel
theorem dX6_tour_39 : decode cX6_tour 39 = .ok (.iload_n 2, 1) := by decide +kernel
theorem dX6_tour_40 : decode cX6_tour 40 = .ok (.invokestatic 111, 3) := by decide +kernel
theorem dX6_tour_43 : decode cX6_tour 43 = .ok (.istore 5, 2) := by decide +kernel
theorem dX6_tour_45 : decode cX6_tour 45 = .ok (.iload_n 3, 1) := by decide +kernel
theorem dX6_tour_46 : decode cX6_tour 46 = .ok (.iload 5, 2) := by decide +kernel
theorem dX6_tour_48 : decode cX6_tour 48 = .ok (.iconst 1, 1) := by decide +kernel
theorem dX6_tour_49 : decode cX6_tour 49 = .ok (.isub, 1) := by decide +kernel
theorem dX6_tour_50 : decode cX6_tour 50 = .ok (.iload 4, 2) := by decide +kernel
theorem dX6_tour_52 : decode cX6_tour 52 = .ok (.iconst 1, 1) := by decide +kernel
theorem dX6_tour_53 : decode cX6_tour 53 = .ok (.iadd, 1) := by decide +kernel
theorem dX6_tour_54 : decode cX6_tour 54 = .ok (.imul, 1) := by decide +kernel
theorem dX6_tour_55 : decode cX6_tour 55 = .ok (.iadd, 1) := by decide +kernel
theorem dX6_tour_56 : decode cX6_tour 56 = .ok (.sipush 999, 3) := by decide +kernel
theorem dX6_tour_59 : decode cX6_tour 59 = .ok (.if_icmp .le 6, 3) := by decide +kernel
theorem dX6_tour_62 : decode cX6_tour 62 = .ok (.bipush (-3), 2) := by decide +kernel
theorem dX6_tour_64 : decode cX6_tour 64 = .ok (.ireturn, 1) := by decide +kernel
theorem dX6_tour_65 : decode cX6_tour 65 = .ok (.iconst 0, 1) := by decide +kernel
theorem dX6_tour_66 : decode cX6_tour 66 = .ok (.istore 6, 2) := by decide +kernel
theorem dX6_tour_68 : decode cX6_tour 68 = .ok (.iload 6, 2) := by decide +kernel
theorem dX6_tour_70 : decode cX6_tour 70 = .ok (.iload 5, 2) := by decide +kernel
theorem dX6_tour_72 : decode cX6_tour 72 = .ok (.if_icmp .ge 54, 3) := by decide +kernel
theorem dX6_tour_75 : decode cX6_tour 75 = .ok (.iconst 0, 1) := by decide +kernel
theorem dX6_tour_76 : decode cX6_tour 76 = .ok (.istore 7, 2) := by decide +kernel
theorem dX6_tour_78 : decode cX6_tour 78 = .ok (.iload 7, 2) := by decide +kernel
theorem dX6_tour_80 : decode cX6_tour 80 = .ok (.bipush 8, 2) := by decide +kernel
theorem dX6_tour_82 : decode cX6_tour 82 = .ok (.if_icmp .ge 38, 3) := by decide +kernel
theorem dX6_tour_85 : decode cX6_tour 85 = .ok (.aload_n 0, 1) := by decide +kernel
theorem dX6_tour_86 : decode cX6_tour 86 = .ok (.getfield 52, 3) := by decide +kernel
theorem dX6_tour_89 : decode cX6_tour 89 = .ok (.bipush 8, 2) := by decide +kernel
theorem dX6_tour_91 : decode cX6_tour 91 = .ok (.iload 6, 2) := by decide +kernel
theorem dX6_tour_93 : decode cX6_tour 93 = .ok (.imul, 1) := by decide +kernel
theorem dX6_tour_94 : decode cX6_tour 94 = .ok (.iload 7, 2) := by decide +kernel
theorem dX6_tour_96 : decode cX6_tour 96 = .ok (.iadd, 1) := by decide +kernel
theorem dX6_tour_97 : decode cX6_tour 97 = .ok (.aload_n 0, 1) := by decide +kernel
theorem dX6_tour_98 : decode cX6_tour 98 = .ok (.iload_n 1, 1) := by decide +kernel
theorem dX6_tour_99 : decode cX6_tour 99 = .ok (.iload 7, 2) := by decide +kernel
theorem dX6_tour_101 : decode cX6_tour 101 = .ok (.iload_n 3, 1) := by decide +kernel
theorem dX6_tour_102 : decode cX6_tour 102 = .ok (.iload 6, 2) := by decide +kernel
theorem dX6_tour_104 : decode cX6_tour 104 = .ok (.iload 4, 2) := by decide +kernel
theorem dX6_tour_106 : decode cX6_tour 106 = .ok (.iconst 1, 1) := by decide +kernel
theorem dX6_tour_107 : decode cX6_tour 107 = .ok (.iadd, 1) := by decide +kernel
theorem dX6_tour_108 : decode cX6_tour 108 = .ok (.imul, 1) := by decide +kernel
theorem dX6_tour_109 : decode cX6_tour 109 = .ok (.iadd, 1) := by decide +kernel
theorem dX6_tour_110 : decode cX6_tour 110 = .ok (.invokevirtual 107, 3) := by decide +kernel
theorem dX6_tour_113 : decode cX6_tour 113 = .ok (.iastore, 1) := by decide +kernel
theorem dX6_tour_114 : decode cX6_tour 114 = .ok (.iinc 7 1, 3) := by decide +kernel
theorem dX6_tour_117 : decode cX6_tour 117 = .ok (.goto (-39), 3) := by decide +kernel
theorem dX6_tour_120 : decode cX6_tour 120 = .ok (.iinc 6 1, 3) := by decide +kernel
theorem dX6_tour_123 : decode cX6_tour 123 = .ok (.goto (-55), 3) := by decide +kernel
theorem dX6_tour_126 : decode cX6_tour 126 = .ok (.iconst 0, 1) := by decide +kernel
theorem dX6_tour_127 : decode cX6_tour 127 = .ok (.istore 6, 2) := by decide +kernel
theorem dX6_tour_129 : decode cX6_tour 129 = .ok (.iload 6, 2) := by decide +kernel
theorem dX6_tour_131 : decode cX6_tour 131 = .ok (.iload_n 2, 1) := by decide +kernel
theorem dX6_tour_132 : decode cX6_tour 132 = .ok (.if_icmp .gt 123, 3) := by decide +kernel
theorem dX6_tour_135 : decode cX6_tour 135 = .ok (.iload 6, 2) := by decide +kernel
theorem dX6_tour_137 : decode cX6_tour 137 = .ok (.iload_n 2, 1) := by decide +kernel
theorem dX6_tour_138 : decode cX6_tour 138 = .ok (.iconst (-1), 1) := by decide +kernel
theorem dX6_tour_139 : decode cX6_tour 139 = .ok (.ixor, 1) := by decide +kernel
theorem dX6_tour_140 : decode cX6_tour 140 = .ok (.iand, 1) := by decide +kernel
theorem dX6_tour_141 : decode cX6_tour 141 = .ok (.ifCond .ne 108, 3) := by decide +kernel
theorem dX6_tour_144 : decode cX6_tour 144 = .ok (.iload 5, 2) := by decide +kernel
theorem dX6_tour_146 : decode cX6_tour 146 = .ok (.iload 6, 2) := by decide +kernel
theorem dX6_tour_148 : decode cX6_tour 148 = .ok (.invokestatic 111, 3) := by decide +kernel
theorem dX6_tour_151 : decode cX6_tour 151 = .ok (.isub, 1) := by decide +kernel
theorem dX6_tour_152 : decode cX6_tour 152 = .ok (.istore 7, 2) := by decide +kernel
theorem dX6_tour_154 : decode cX6_tour 154 = .ok (.iload 6, 2) := by decide +kernel
theorem dX6_tour_156 : decode cX6_tour 156 = .ok (.ifCond .ne 7, 3) := by decide +kernel
theorem dX6_tour_159 : decode cX6_tour 159 = .ok (.iconst 0, 1) := by decide +kernel
theorem dX6_tour_160 : decode cX6_tour 160 = .ok (.goto 5, 3) := by decide +kernel
theorem dX6_tour_163 : decode cX6_tour 163 = .ok (.ldc 115, 2) := by decide +kernel
theorem dX6_tour_165 : decode cX6_tour 165 = .ok (.istore 8, 2) := by decide +kernel
theorem dX6_tour_167 : decode cX6_tour 167 = .ok (.iconst 0, 1) := by decide +kernel
theorem dX6_tour_168 : decode cX6_tour 168 = .ok (.istore 9, 2) := by decide +kernel
theorem dX6_tour_170 : decode cX6_tour 170 = .ok (.iload 9, 2) := by decide +kernel
theorem dX6_tour_172 : decode cX6_tour 172 = .ok (.bipush 8, 2) := by decide +kernel
theorem dX6_tour_174 : decode cX6_tour 174 = .ok (.if_icmp .ge 66, 3) := by decide +kernel
theorem dX6_tour_177 : decode cX6_tour 177 = .ok (.iload 6, 2) := by decide +kernel
theorem dX6_tour_179 : decode cX6_tour 179 = .ok (.iload 9, 2) := by decide +kernel
theorem dX6_tour_181 : decode cX6_tour 181 = .ok (.ishr, 1) := by decide +kernel
theorem dX6_tour_182 : decode cX6_tour 182 = .ok (.iconst 1, 1) := by decide +kernel
theorem dX6_tour_183 : decode cX6_tour 183 = .ok (.iand, 1) := by decide +kernel
theorem dX6_tour_184 : decode cX6_tour 184 = .ok (.iconst 1, 1) := by decide +kernel
theorem dX6_tour_185 : decode cX6_tour 185 = .ok (.if_icmp .ne 49, 3) := by decide +kernel
theorem dX6_tour_188 : decode cX6_tour 188 = .ok (.aload_n 0, 1) := by decide +kernel
theorem dX6_tour_189 : decode cX6_tour 189 = .ok (.getfield 52, 3) := by decide +kernel
theorem dX6_tour_192 : decode cX6_tour 192 = .ok (.bipush 8, 2) := by decide +kernel
theorem dX6_tour_194 : decode cX6_tour 194 = .ok (.iload 7, 2) := by decide +kernel
theorem dX6_tour_196 : decode cX6_tour 196 = .ok (.imul, 1) := by decide +kernel
theorem dX6_tour_197 : decode cX6_tour 197 = .ok (.iload 9, 2) := by decide +kernel
theorem dX6_tour_199 : decode cX6_tour 199 = .ok (.iadd, 1) := by decide +kernel
theorem dX6_tour_200 : decode cX6_tour 200 = .ok (.iaload, 1) := by decide +kernel
theorem dX6_tour_201 : decode cX6_tour 201 = .ok (.aload_n 0, 1) := by decide +kernel
theorem dX6_tour_202 : decode cX6_tour 202 = .ok (.getfield 49, 3) := by decide +kernel
theorem dX6_tour_205 : decode cX6_tour 205 = .ok (.iload 6, 2) := by decide +kernel
theorem dX6_tour_207 : decode cX6_tour 207 = .ok (.iconst 1, 1) := by decide +kernel
theorem dX6_tour_208 : decode cX6_tour 208 = .ok (.iload 9, 2) := by decide +kernel
theorem dX6_tour_210 : decode cX6_tour 210 = .ok (.ishl, 1) := by decide +kernel
theorem dX6_tour_211 : decode cX6_tour 211 = .ok (.iconst (-1), 1) := by decide +kernel
theorem dX6_tour_212 : decode cX6_tour 212 = .ok (.ixor, 1) := by decide +kernel
theorem dX6_tour_213 : decode cX6_tour 213 = .ok (.iand, 1) := by decide +kernel
theorem dX6_tour_214 : decode cX6_tour 214 = .ok (.iaload, 1) := by decide +kernel
theorem dX6_tour_215 : decode cX6_tour 215 = .ok (.iadd, 1) := by decide +kernel
theorem dX6_tour_216 : decode cX6_tour 216 = .ok (.istore 10, 2) := by decide +kernel
theorem dX6_tour_218 : decode cX6_tour 218 = .ok (.iload 10, 2) := by decide +kernel
theorem dX6_tour_220 : decode cX6_tour 220 = .ok (.iload 8, 2) := by decide +kernel
theorem dX6_tour_222 : decode cX6_tour 222 = .ok (.if_icmp .ge 8, 3) := by decide +kernel
theorem dX6_tour_225 : decode cX6_tour 225 = .ok (.iload 10, 2) := by decide +kernel
theorem dX6_tour_227 : decode cX6_tour 227 = .ok (.goto 5, 3) := by decide +kernel
theorem dX6_tour_230 : decode cX6_tour 230 = .ok (.iload 8, 2) := by decide +kernel
theorem dX6_tour_232 : decode cX6_tour 232 = .ok (.istore 8, 2) := by decide +kernel
theorem dX6_tour_234 : decode cX6_tour 234 = .ok (.iinc 9 1, 3) := by decide +kernel
theorem dX6_tour_237 : decode cX6_tour 237 = .ok (.goto (-67), 3) := by decide +kernel
theorem dX6_tour_240 : decode cX6_tour 240 = .ok (.aload_n 0, 1) := by decide +kernel
theorem dX6_tour_241 : decode cX6_tour 241 = .ok (.getfield 49, 3) := by decide +kernel
theorem dX6_tour_244 : decode cX6_tour 244 = .ok (.iload 6, 2) := by decide +kernel
theorem dX6_tour_246 : decode cX6_tour 246 = .ok (.iload 8, 2) := by decide +kernel
theorem dX6_tour_248 : decode cX6_tour 248 = .ok (.iastore, 1) := by decide +kernel
theorem dX6_tour_249 : decode cX6_tour 249 = .ok (.iinc 6 1, 3) := by decide +kernel
theorem dX6_tour_252 : decode cX6_tour 252 = .ok (.goto (-123), 3) := by decide +kernel
theorem dX6_tour_255 : decode cX6_tour 255 = .ok (.iload_n 2, 1) := by decide +kernel
theorem dX6_tour_256 : decode cX6_tour 256 = .ok (.istore 6, 2) := by decide +kernel
theorem dX6_tour_258 : decode cX6_tour 258 = .ok (.iconst 0, 1) := by decide +kernel
theorem dX6_tour_259 : decode cX6_tour 259 = .ok (.istore 7, 2) := by decide +kernel
theorem dX6_tour_261 : decode cX6_tour 261 = .ok (.iload 7, 2) := by decide +kernel
theorem dX6_tour_263 : decode cX6_tour 263 = .ok (.iload 5, 2) := by decide +kernel
theorem dX6_tour_265 : decode cX6_tour 265 = .ok (.if_icmp .ge 86, 3) := by decide +kernel
theorem dX6_tour_268 : decode cX6_tour 268 = .ok (.iconst 0, 1) := by decide +kernel
theorem dX6_tour_269 : decode cX6_tour 269 = .ok (.istore 8, 2) := by decide +kernel
theorem dX6_tour_271 : decode cX6_tour 271 = .ok (.iload 6, 2) := by decide +kernel
theorem dX6_tour_273 : decode cX6_tour 273 = .ok (.iload 8, 2) := by decide +kernel
theorem dX6_tour_275 : decode cX6_tour 275 = .ok (.ishr, 1) := by decide +kernel
theorem dX6_tour_276 : decode cX6_tour 276 = .ok (.iconst 1, 1) := by decide +kernel
theorem dX6_tour_277 : decode cX6_tour 277 = .ok (.iand, 1) := by decide +kernel
theorem dX6_tour_278 : decode cX6_tour 278 = .ok (.ifCond .eq 41, 3) := by decide +kernel
theorem dX6_tour_281 : decode cX6_tour 281 = .ok (.aload_n 0, 1) := by decide +kernel
theorem dX6_tour_282 : decode cX6_tour 282 = .ok (.getfield 52, 3) := by decide +kernel
theorem dX6_tour_285 : decode cX6_tour 285 = .ok (.bipush 8, 2) := by decide +kernel
theorem dX6_tour_287 : decode cX6_tour 287 = .ok (.iload 7, 2) := by decide +kernel
theorem dX6_tour_289 : decode cX6_tour 289 = .ok (.imul, 1) := by decide +kernel
theorem dX6_tour_290 : decode cX6_tour 290 = .ok (.iload 8, 2) := by decide +kernel
theorem dX6_tour_292 : decode cX6_tour 292 = .ok (.iadd, 1) := by decide +kernel
theorem dX6_tour_293 : decode cX6_tour 293 = .ok (.iaload, 1) := by decide +kernel
theorem dX6_tour_294 : decode cX6_tour 294 = .ok (.aload_n 0, 1) := by decide +kernel
theorem dX6_tour_295 : decode cX6_tour 295 = .ok (.getfield 49, 3) := by decide +kernel
theorem dX6_tour_298 : decode cX6_tour 298 = .ok (.iload 6, 2) := by decide +kernel
theorem dX6_tour_300 : decode cX6_tour 300 = .ok (.iconst 1, 1) := by decide +kernel
theorem dX6_tour_301 : decode cX6_tour 301 = .ok (.iload 8, 2) := by decide +kernel
theorem dX6_tour_303 : decode cX6_tour 303 = .ok (.ishl, 1) := by decide +kernel
theorem dX6_tour_304 : decode cX6_tour 304 = .ok (.iconst (-1), 1) := by decide +kernel
theorem dX6_tour_305 : decode cX6_tour 305 = .ok (.ixor, 1) := by decide +kernel
theorem dX6_tour_306 : decode cX6_tour 306 = .ok (.iand, 1) := by decide +kernel
theorem dX6_tour_307 : decode cX6_tour 307 = .ok (.iaload, 1) := by decide +kernel
theorem dX6_tour_308 : decode cX6_tour 308 = .ok (.iadd, 1) := by decide +kernel
theorem dX6_tour_309 : decode cX6_tour 309 = .ok (.aload_n 0, 1) := by decide +kernel
theorem dX6_tour_310 : decode cX6_tour 310 = .ok (.getfield 49, 3) := by decide +kernel
theorem dX6_tour_313 : decode cX6_tour 313 = .ok (.iload 6, 2) := by decide +kernel
theorem dX6_tour_315 : decode cX6_tour 315 = .ok (.iaload, 1) := by decide +kernel
theorem dX6_tour_316 : decode cX6_tour 316 = .ok (.if_icmp .eq 9, 3) := by decide +kernel
theorem dX6_tour_319 : decode cX6_tour 319 = .ok (.iinc 8 1, 3) := by decide +kernel
theorem dX6_tour_322 : decode cX6_tour 322 = .ok (.goto (-51), 3) := by decide +kernel
theorem dX6_tour_325 : decode cX6_tour 325 = .ok (.aload_n 0, 1) := by decide +kernel
theorem dX6_tour_326 : decode cX6_tour 326 = .ok (.getfield 55, 3) := by decide +kernel
theorem dX6_tour_329 : decode cX6_tour 329 = .ok (.iload 7, 2) := by decide +kernel
theorem dX6_tour_331 : decode cX6_tour 331 = .ok (.iload 8, 2) := by decide +kernel
theorem dX6_tour_333 : decode cX6_tour 333 = .ok (.iastore, 1) := by decide +kernel
theorem dX6_tour_334 : decode cX6_tour 334 = .ok (.iload 6, 2) := by decide +kernel
theorem dX6_tour_336 : decode cX6_tour 336 = .ok (.iconst 1, 1) := by decide +kernel
theorem dX6_tour_337 : decode cX6_tour 337 = .ok (.iload 8, 2) := by decide +kernel
theorem dX6_tour_339 : decode cX6_tour 339 = .ok (.ishl, 1) := by decide +kernel
theorem dX6_tour_340 : decode cX6_tour 340 = .ok (.iconst (-1), 1) := by decide +kernel
theorem dX6_tour_341 : decode cX6_tour 341 = .ok (.ixor, 1) := by decide +kernel
theorem dX6_tour_342 : decode cX6_tour 342 = .ok (.iand, 1) := by decide +kernel
theorem dX6_tour_343 : decode cX6_tour 343 = .ok (.istore 6, 2) := by decide +kernel
theorem dX6_tour_345 : decode cX6_tour 345 = .ok (.iinc 7 1, 3) := by decide +kernel
theorem dX6_tour_348 : decode cX6_tour 348 = .ok (.goto (-87), 3) := by decide +kernel
theorem dX6_tour_351 : decode cX6_tour 351 = .ok (.aload_n 0, 1) := by decide +kernel
theorem dX6_tour_352 : decode cX6_tour 352 = .ok (.iload 5, 2) := by decide +kernel
theorem dX6_tour_354 : decode cX6_tour 354 = .ok (.putfield 116, 3) := by decide +kernel
theorem dX6_tour_357 : decode cX6_tour 357 = .ok (.aload_n 0, 1) := by decide +kernel
theorem dX6_tour_358 : decode cX6_tour 358 = .ok (.getfield 49, 3) := by decide +kernel
theorem dX6_tour_361 : decode cX6_tour 361 = .ok (.iload_n 2, 1) := by decide +kernel
theorem dX6_tour_362 : decode cX6_tour 362 = .ok (.iaload, 1) := by decide +kernel
theorem dX6_tour_363 : decode cX6_tour 363 = .ok (.ireturn, 1) := by decide +kernel
theorem dX6_town_0 : decode cX6_town 0 = .ok (.iload_n 1, 1) := by decide +kernel
theorem dX6_town_1 : decode cX6_town 1 = .ok (.iconst 0, 1) := by decide +kernel
theorem dX6_town_2 : decode cX6_town 2 = .ok (.aload_n 0, 1) := by decide +kernel
theorem dX6_town_3 : decode cX6_town 3 = .ok (.getfield 116, 3) := by decide +kernel
theorem dX6_town_6 : decode cX6_town 6 = .ok (.iconst 1, 1) := by decide +kernel
theorem dX6_town_7 : decode cX6_town 7 = .ok (.isub, 1) := by decide +kernel
theorem dX6_town_8 : decode cX6_town 8 = .ok (.invokestatic 62, 3) := by decide +kernel
theorem dX6_town_11 : decode cX6_town 11 = .ok (.ifCond .eq 12, 3) := by decide +kernel
theorem dX6_town_14 : decode cX6_town 14 = .ok (.aload_n 0, 1) := by decide +kernel
theorem dX6_town_15 : decode cX6_town 15 = .ok (.getfield 55, 3) := by decide +kernel
theorem dX6_town_18 : decode cX6_town 18 = .ok (.iload_n 1, 1) := by decide +kernel
theorem dX6_town_19 : decode cX6_town 19 = .ok (.iaload, 1) := by decide +kernel
theorem dX6_town_20 : decode cX6_town 20 = .ok (.goto 4, 3) := by decide +kernel
theorem dX6_town_23 : decode cX6_town 23 = .ok (.iconst (-1), 1) := by decide +kernel
theorem dX6_town_24 : decode cX6_town 24 = .ok (.ireturn, 1) := by decide +kernel
theorem dX6_free_0 : decode cX6_free 0 = .ok (.iload_n 1, 1) := by decide +kernel
theorem dX6_free_1 : decode cX6_free 1 = .ok (.invokestatic 66, 3) := by decide +kernel
theorem dX6_free_4 : decode cX6_free 4 = .ok (.ifCond .eq 17, 3) := by decide +kernel
theorem dX6_free_7 : decode cX6_free 7 = .ok (.iload_n 2, 1) := by decide +kernel
theorem dX6_free_8 : decode cX6_free 8 = .ok (.invokestatic 95, 3) := by decide +kernel
theorem dX6_free_11 : decode cX6_free 11 = .ok (.ifCond .eq 10, 3) := by decide +kernel
theorem dX6_free_14 : decode cX6_free 14 = .ok (.iload_n 3, 1) := by decide +kernel
theorem dX6_free_15 : decode cX6_free 15 = .ok (.invokestatic 98, 3) := by decide +kernel
theorem dX6_free_18 : decode cX6_free 18 = .ok (.ifCond .ne 6, 3) := by decide +kernel
theorem dX6_free_21 : decode cX6_free 21 = .ok (.bipush (-2), 2) := by decide +kernel
theorem dX6_free_23 : decode cX6_free 23 = .ok (.ireturn, 1) := by decide +kernel
theorem dX6_free_24 : decode cX6_free 24 = .ok (.iload_n 3, 1) := by decide +kernel
theorem dX6_free_25 : decode cX6_free 25 = .ok (.istore 4, 2) := by decide +kernel
theorem dX6_free_27 : decode cX6_free 27 = .ok (.iload 4, 2) := by decide +kernel
theorem dX6_free_29 : decode cX6_free 29 = .ok (.sipush 1000, 3) := by decide +kernel
theorem dX6_free_32 : decode cX6_free 32 = .ok (.if_icmp .ge 23, 3) := by decide +kernel
theorem dX6_free_35 : decode cX6_free 35 = .ok (.aload_n 0, 1) := by decide +kernel
theorem dX6_free_36 : decode cX6_free 36 = .ok (.iload_n 1, 1) := by decide +kernel
theorem dX6_free_37 : decode cX6_free 37 = .ok (.iload_n 2, 1) := by decide +kernel
theorem dX6_free_38 : decode cX6_free 38 = .ok (.iload 4, 2) := by decide +kernel
theorem dX6_free_40 : decode cX6_free 40 = .ok (.invokevirtual 107, 3) := by decide +kernel
theorem dX6_free_43 : decode cX6_free 43 = .ok (.ifCond .ne 6, 3) := by decide +kernel
theorem dX6_free_46 : decode cX6_free 46 = .ok (.iload 4, 2) := by decide +kernel
theorem dX6_free_48 : decode cX6_free 48 = .ok (.ireturn, 1) := by decide +kernel
theorem dX6_free_49 : decode cX6_free 49 = .ok (.iinc 4 1, 3) := by decide +kernel
theorem dX6_free_52 : decode cX6_free 52 = .ok (.goto (-25), 3) := by decide +kernel
theorem dX6_free_55 : decode cX6_free 55 = .ok (.iconst (-1), 1) := by decide +kernel
theorem dX6_free_56 : decode cX6_free 56 = .ok (.ireturn, 1) := by decide +kernel
theorem dX6_count_0 : decode cX6_count 0 = .ok (.iconst 0, 1) := by decide +kernel
theorem dX6_count_1 : decode cX6_count 1 = .ok (.istore_n 2, 1) := by decide +kernel
theorem dX6_count_2 : decode cX6_count 2 = .ok (.iload_n 1, 1) := by decide +kernel
theorem dX6_count_3 : decode cX6_count 3 = .ok (.tableswitch 151 0 4 #[33, 58, 63, 87, 146], 33) := by decide +kernel
theorem dX6_count_36 : decode cX6_count 36 = .ok (.iconst 0, 1) := by decide +kernel
theorem dX6_count_37 : decode cX6_count 37 = .ok (.istore_n 3, 1) := by decide +kernel
theorem dX6_count_38 : decode cX6_count 38 = .ok (.iload_n 3, 1) := by decide +kernel
theorem dX6_count_39 : decode cX6_count 39 = .ok (.bipush 8, 2) := by decide +kernel
theorem dX6_count_41 : decode cX6_count 41 = .ok (.if_icmp .ge 18, 3) := by decide +kernel
theorem dX6_count_44 : decode cX6_count 44 = .ok (.iload_n 2, 1) := by decide +kernel
theorem dX6_count_45 : decode cX6_count 45 = .ok (.aload_n 0, 1) := by decide +kernel
theorem dX6_count_46 : decode cX6_count 46 = .ok (.getfield 13, 3) := by decide +kernel
theorem dX6_count_49 : decode cX6_count 49 = .ok (.iload_n 3, 1) := by decide +kernel
theorem dX6_count_50 : decode cX6_count 50 = .ok (.iaload, 1) := by decide +kernel
theorem dX6_count_51 : decode cX6_count 51 = .ok (.iadd, 1) := by decide +kernel
theorem dX6_count_52 : decode cX6_count 52 = .ok (.istore_n 2, 1) := by decide +kernel
theorem dX6_count_53 : decode cX6_count 53 = .ok (.iinc 3 1, 3) := by decide +kernel
theorem dX6_count_56 : decode cX6_count 56 = .ok (.goto (-18), 3) := by decide +kernel
theorem dX6_count_59 : decode cX6_count 59 = .ok (.iload_n 2, 1) := by decide +kernel
theorem dX6_count_60 : decode cX6_count 60 = .ok (.ireturn, 1) := by decide +kernel
theorem dX6_count_61 : decode cX6_count 61 = .ok (.aload_n 0, 1) := by decide +kernel
theorem dX6_count_62 : decode cX6_count 62 = .ok (.getfield 81, 3) := by decide +kernel
theorem dX6_count_65 : decode cX6_count 65 = .ok (.ireturn, 1) := by decide +kernel
theorem dX6_count_66 : decode cX6_count 66 = .ok (.iconst 0, 1) := by decide +kernel
theorem dX6_count_67 : decode cX6_count 67 = .ok (.istore_n 3, 1) := by decide +kernel
theorem dX6_count_68 : decode cX6_count 68 = .ok (.iload_n 3, 1) := by decide +kernel
theorem dX6_count_69 : decode cX6_count 69 = .ok (.iconst 4, 1) := by decide +kernel
theorem dX6_count_70 : decode cX6_count 70 = .ok (.if_icmp .ge 18, 3) := by decide +kernel
theorem dX6_count_73 : decode cX6_count 73 = .ok (.iload_n 2, 1) := by decide +kernel
theorem dX6_count_74 : decode cX6_count 74 = .ok (.aload_n 0, 1) := by decide +kernel
theorem dX6_count_75 : decode cX6_count 75 = .ok (.getfield 19, 3) := by decide +kernel
theorem dX6_count_78 : decode cX6_count 78 = .ok (.iload_n 3, 1) := by decide +kernel
theorem dX6_count_79 : decode cX6_count 79 = .ok (.iaload, 1) := by decide +kernel
theorem dX6_count_80 : decode cX6_count 80 = .ok (.iadd, 1) := by decide +kernel
theorem dX6_count_81 : decode cX6_count 81 = .ok (.istore_n 2, 1) := by decide +kernel
theorem dX6_count_82 : decode cX6_count 82 = .ok (.iinc 3 1, 3) := by decide +kernel
theorem dX6_count_85 : decode cX6_count 85 = .ok (.goto (-17), 3) := by decide +kernel
theorem dX6_count_88 : decode cX6_count 88 = .ok (.iload_n 2, 1) := by decide +kernel
theorem dX6_count_89 : decode cX6_count 89 = .ok (.ireturn, 1) := by decide +kernel
theorem dX6_count_90 : decode cX6_count 90 = .ok (.iconst 0, 1) := by decide +kernel
theorem dX6_count_91 : decode cX6_count 91 = .ok (.istore_n 3, 1) := by decide +kernel
theorem dX6_count_92 : decode cX6_count 92 = .ok (.iload_n 3, 1) := by decide +kernel
theorem dX6_count_93 : decode cX6_count 93 = .ok (.iconst 4, 1) := by decide +kernel
theorem dX6_count_94 : decode cX6_count 94 = .ok (.if_icmp .ge 53, 3) := by decide +kernel
theorem dX6_count_97 : decode cX6_count 97 = .ok (.iconst 0, 1) := by decide +kernel
theorem dX6_count_98 : decode cX6_count 98 = .ok (.istore 4, 2) := by decide +kernel
theorem dX6_count_100 : decode cX6_count 100 = .ok (.iload 4, 2) := by decide +kernel
theorem dX6_count_102 : decode cX6_count 102 = .ok (.aload_n 0, 1) := by decide +kernel
theorem dX6_count_103 : decode cX6_count 103 = .ok (.getfield 19, 3) := by decide +kernel
theorem dX6_count_106 : decode cX6_count 106 = .ok (.iload_n 3, 1) := by decide +kernel
theorem dX6_count_107 : decode cX6_count 107 = .ok (.iaload, 1) := by decide +kernel
theorem dX6_count_108 : decode cX6_count 108 = .ok (.if_icmp .ge 33, 3) := by decide +kernel
theorem dX6_count_111 : decode cX6_count 111 = .ok (.iload_n 2, 1) := by decide +kernel
theorem dX6_count_112 : decode cX6_count 112 = .ok (.aload_n 0, 1) := by decide +kernel
theorem dX6_count_113 : decode cX6_count 113 = .ok (.getfield 16, 3) := by decide +kernel
theorem dX6_count_116 : decode cX6_count 116 = .ok (.bipush 40, 2) := by decide +kernel
theorem dX6_count_118 : decode cX6_count 118 = .ok (.iload_n 3, 1) := by decide +kernel
theorem dX6_count_119 : decode cX6_count 119 = .ok (.imul, 1) := by decide +kernel
theorem dX6_count_120 : decode cX6_count 120 = .ok (.iload 4, 2) := by decide +kernel
theorem dX6_count_122 : decode cX6_count 122 = .ok (.iadd, 1) := by decide +kernel
theorem dX6_count_123 : decode cX6_count 123 = .ok (.iaload, 1) := by decide +kernel
theorem dX6_count_124 : decode cX6_count 124 = .ok (.iconst (-1), 1) := by decide +kernel
theorem dX6_count_125 : decode cX6_count 125 = .ok (.if_icmp .ne 7, 3) := by decide +kernel
theorem dX6_count_128 : decode cX6_count 128 = .ok (.iconst 1, 1) := by decide +kernel
theorem dX6_count_129 : decode cX6_count 129 = .ok (.goto 4, 3) := by decide +kernel
theorem dX6_count_132 : decode cX6_count 132 = .ok (.iconst 0, 1) := by decide +kernel
theorem dX6_count_133 : decode cX6_count 133 = .ok (.iadd, 1) := by decide +kernel
theorem dX6_count_134 : decode cX6_count 134 = .ok (.istore_n 2, 1) := by decide +kernel
theorem dX6_count_135 : decode cX6_count 135 = .ok (.iinc 4 1, 3) := by decide +kernel
theorem dX6_count_138 : decode cX6_count 138 = .ok (.goto (-38), 3) := by decide +kernel
theorem dX6_count_141 : decode cX6_count 141 = .ok (.iinc 3 1, 3) := by decide +kernel
theorem dX6_count_144 : decode cX6_count 144 = .ok (.goto (-52), 3) := by decide +kernel
theorem dX6_count_147 : decode cX6_count 147 = .ok (.iload_n 2, 1) := by decide +kernel
theorem dX6_count_148 : decode cX6_count 148 = .ok (.ireturn, 1) := by decide +kernel
theorem dX6_count_149 : decode cX6_count 149 = .ok (.aload_n 0, 1) := by decide +kernel
theorem dX6_count_150 : decode cX6_count 150 = .ok (.getfield 101, 3) := by decide +kernel
theorem dX6_count_153 : decode cX6_count 153 = .ok (.ireturn, 1) := by decide +kernel
theorem dX6_count_154 : decode cX6_count 154 = .ok (.bipush (-2), 2) := by decide +kernel
theorem dX6_count_156 : decode cX6_count 156 = .ok (.ireturn, 1) := by decide +kernel
