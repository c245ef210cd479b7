theorem dL_cell_0 : decode cL_cell 0 = .ok (.iload_n 1, 1) := by decide +kernel
theorem dL_cell_1 : decode cL_cell 1 = .ok (.aload_n 0, 1) := by decide +kernel
theorem dL_cell_2 : decode cL_cell 2 = .ok (.arraylength, 1) := by decide +kernel
theorem dL_cell_3 : decode cL_cell 3 = .ok (.if_icmp .ge 9, 3) := by decide +kernel
theorem dL_cell_6 : decode cL_cell 6 = .ok (.aload_n 0, 1) := by decide +kernel
theorem dL_cell_7 : decode cL_cell 7 = .ok (.iload_n 1, 1) := by decide +kernel
theorem dL_cell_8 : decode cL_cell 8 = .ok (.iaload, 1) := by decide +kernel
theorem dL_cell_9 : decode cL_cell 9 = .ok (.goto 11, 3) := by decide +kernel
theorem dL_cell_12 : decode cL_cell 12 = .ok (.ldc 7, 2) := by decide +kernel
theorem dL_cell_14 : decode cL_cell 14 = .ok (.iload_n 1, 1) := by decide +kernel
theorem dL_cell_15 : decode cL_cell 15 = .ok (.imul, 1) := by decide +kernel
theorem dL_cell_16 : decode cL_cell 16 = .ok (.sipush 977, 3) := by decide +kernel
theorem dL_cell_19 : decode cL_cell 19 = .ok (.iadd, 1) := by decide +kernel
theorem dL_cell_20 : decode cL_cell 20 = .ok (.ireturn, 1) := by decide +kernel
theorem dL_low_0 : decode cL_low 0 = .ok (.iload_n 0, 1) := by decide +kernel
theorem dL_low_1 : decode cL_low 1 = .ok (.ldc 8, 2) := by decide +kernel
theorem dL_low_3 : decode cL_low 3 = .ok (.iand, 1) := by decide +kernel
theorem dL_low_4 : decode cL_low 4 = .ok (.iload_n 1, 1) := by decide +kernel
theorem dL_low_5 : decode cL_low 5 = .ok (.irem, 1) := by decide +kernel
theorem dL_low_6 : decode cL_low 6 = .ok (.ireturn, 1) := by decide +kernel
theorem dL_act_0 : decode cL_act 0 = .ok (.iload_n 2, 1) := by decide +kernel
theorem dL_act_1 : decode cL_act 1 = .ok (.iconst 3, 1) := by decide +kernel
theorem dL_act_2 : decode cL_act 2 = .ok (.invokestatic 9, 3) := by decide +kernel
theorem dL_act_5 : decode cL_act 5 = .ok (.istore 4, 2) := by decide +kernel
theorem dL_act_7 : decode cL_act 7 = .ok (.iload_n 1, 1) := by decide +kernel
theorem dL_act_8 : decode cL_act 8 = .ok (.tableswitch 222 0 15 #[80, 80, 80, 113, 113, 129, 129, 154, 161, 161, 161, 174, 174, 179, 195, 205], 80) := by decide +kernel
theorem dL_act_88 : decode cL_act 88 = .ok (.aload_n 0, 1) := by decide +kernel
theorem dL_act_89 : decode cL_act 89 = .ok (.iload 4, 2) := by decide +kernel
theorem dL_act_91 : decode cL_act 91 = .ok (.iconst 1, 1) := by decide +kernel
theorem dL_act_92 : decode cL_act 92 = .ok (.iload_n 3, 1) := by decide +kernel
theorem dL_act_93 : decode cL_act 93 = .ok (.sipush 2000, 3) := by decide +kernel
theorem dL_act_96 : decode cL_act 96 = .ok (.invokestatic 9, 3) := by decide +kernel
theorem dL_act_99 : decode cL_act 99 = .ok (.iadd, 1) := by decide +kernel
theorem dL_act_100 : decode cL_act 100 = .ok (.iload_n 2, 1) := by decide +kernel
theorem dL_act_101 : decode cL_act 101 = .ok (.iconst 4, 1) := by decide +kernel
theorem dL_act_102 : decode cL_act 102 = .ok (.ishr, 1) := by decide +kernel
theorem dL_act_103 : decode cL_act 103 = .ok (.bipush 42, 2) := by decide +kernel
theorem dL_act_105 : decode cL_act 105 = .ok (.invokestatic 9, 3) := by decide +kernel
theorem dL_act_108 : decode cL_act 108 = .ok (.iload_n 2, 1) := by decide +kernel
theorem dL_act_109 : decode cL_act 109 = .ok (.bipush 10, 2) := by decide +kernel
theorem dL_act_111 : decode cL_act 111 = .ok (.ishr, 1) := by decide +kernel
theorem dL_act_112 : decode cL_act 112 = .ok (.bipush 30, 2) := by decide +kernel
theorem dL_act_114 : decode cL_act 114 = .ok (.invokestatic 9, 3) := by decide +kernel
theorem dL_act_117 : decode cL_act 117 = .ok (.invokevirtual 15, 3) := by decide +kernel
theorem dL_act_120 : decode cL_act 120 = .ok (.ireturn, 1) := by decide +kernel
theorem dL_act_121 : decode cL_act 121 = .ok (.aload_n 0, 1) := by decide +kernel
theorem dL_act_122 : decode cL_act 122 = .ok (.iload 4, 2) := by decide +kernel
theorem dL_act_124 : decode cL_act 124 = .ok (.iconst 1, 1) := by decide +kernel
theorem dL_act_125 : decode cL_act 125 = .ok (.iload_n 3, 1) := by decide +kernel
theorem dL_act_126 : decode cL_act 126 = .ok (.sipush 3000, 3) := by decide +kernel
theorem dL_act_129 : decode cL_act 129 = .ok (.invokestatic 9, 3) := by decide +kernel
theorem dL_act_132 : decode cL_act 132 = .ok (.iadd, 1) := by decide +kernel
theorem dL_act_133 : decode cL_act 133 = .ok (.invokevirtual 21, 3) := by decide +kernel
theorem dL_act_136 : decode cL_act 136 = .ok (.ireturn, 1) := by decide +kernel
theorem dL_act_137 : decode cL_act 137 = .ok (.aload_n 0, 1) := by decide +kernel
theorem dL_act_138 : decode cL_act 138 = .ok (.iload_n 2, 1) := by decide +kernel
theorem dL_act_139 : decode cL_act 139 = .ok (.aload_n 0, 1) := by decide +kernel
theorem dL_act_140 : decode cL_act 140 = .ok (.iconst 1, 1) := by decide +kernel
theorem dL_act_141 : decode cL_act 141 = .ok (.invokevirtual 24, 3) := by decide +kernel
theorem dL_act_144 : decode cL_act 144 = .ok (.iconst 1, 1) := by decide +kernel
theorem dL_act_145 : decode cL_act 145 = .ok (.iadd, 1) := by decide +kernel
theorem dL_act_146 : decode cL_act 146 = .ok (.invokestatic 9, 3) := by decide +kernel
theorem dL_act_149 : decode cL_act 149 = .ok (.iconst 1, 1) := by decide +kernel
theorem dL_act_150 : decode cL_act 150 = .ok (.iload_n 3, 1) := by decide +kernel
theorem dL_act_151 : decode cL_act 151 = .ok (.sipush 2500, 3) := by decide +kernel
theorem dL_act_154 : decode cL_act 154 = .ok (.invokestatic 9, 3) := by decide +kernel
theorem dL_act_157 : decode cL_act 157 = .ok (.iadd, 1) := by decide +kernel
theorem dL_act_158 : decode cL_act 158 = .ok (.invokevirtual 28, 3) := by decide +kernel
theorem dL_act_161 : decode cL_act 161 = .ok (.ireturn, 1) := by decide +kernel
theorem dL_act_162 : decode cL_act 162 = .ok (.aload_n 0, 1) := by decide +kernel
theorem dL_act_163 : decode cL_act 163 = .ok (.iload 4, 2) := by decide +kernel
theorem dL_act_165 : decode cL_act 165 = .ok (.invokevirtual 31, 3) := by decide +kernel
theorem dL_act_168 : decode cL_act 168 = .ok (.ireturn, 1) := by decide +kernel
theorem dL_act_169 : decode cL_act 169 = .ok (.aload_n 0, 1) := by decide +kernel
theorem dL_act_170 : decode cL_act 170 = .ok (.iconst 1, 1) := by decide +kernel
theorem dL_act_171 : decode cL_act 171 = .ok (.iload_n 2, 1) := by decide +kernel
theorem dL_act_172 : decode cL_act 172 = .ok (.bipush 40, 2) := by decide +kernel
theorem dL_act_174 : decode cL_act 174 = .ok (.invokestatic 9, 3) := by decide +kernel
theorem dL_act_177 : decode cL_act 177 = .ok (.iadd, 1) := by decide +kernel
theorem dL_act_178 : decode cL_act 178 = .ok (.invokevirtual 34, 3) := by decide +kernel
theorem dL_act_181 : decode cL_act 181 = .ok (.ireturn, 1) := by decide +kernel
theorem dL_act_182 : decode cL_act 182 = .ok (.aload_n 0, 1) := by decide +kernel
theorem dL_act_183 : decode cL_act 183 = .ok (.invokevirtual 37, 3) := by decide +kernel
theorem dL_act_186 : decode cL_act 186 = .ok (.ireturn, 1) := by decide +kernel
theorem dL_act_187 : decode cL_act 187 = .ok (.aload_n 0, 1) := by decide +kernel
theorem dL_act_188 : decode cL_act 188 = .ok (.iload_n 2, 1) := by decide +kernel
theorem dL_act_189 : decode cL_act 189 = .ok (.aload_n 0, 1) := by decide +kernel
theorem dL_act_190 : decode cL_act 190 = .ok (.iconst 1, 1) := by decide +kernel
theorem dL_act_191 : decode cL_act 191 = .ok (.invokevirtual 24, 3) := by decide +kernel
theorem dL_act_194 : decode cL_act 194 = .ok (.iconst 1, 1) := by decide +kernel
theorem dL_act_195 : decode cL_act 195 = .ok (.iadd, 1) := by decide +kernel
theorem dL_act_196 : decode cL_act 196 = .ok (.invokestatic 9, 3) := by decide +kernel
theorem dL_act_199 : decode cL_act 199 = .ok (.invokevirtual 41, 3) := by decide +kernel
theorem dL_act_202 : decode cL_act 202 = .ok (.ireturn, 1) := by decide +kernel
theorem dL_act_203 : decode cL_act 203 = .ok (.aload_n 0, 1) := by decide +kernel
theorem dL_act_204 : decode cL_act 204 = .ok (.iload_n 2, 1) := by decide +kernel
theorem dL_act_205 : decode cL_act 205 = .ok (.iconst 4, 1) := by decide +kernel
theorem dL_act_206 : decode cL_act 206 = .ok (.invokestatic 9, 3) := by decide +kernel
theorem dL_act_209 : decode cL_act 209 = .ok (.invokevirtual 44, 3) := by decide +kernel
theorem dL_act_212 : decode cL_act 212 = .ok (.ireturn, 1) := by decide +kernel
theorem dL_act_213 : decode cL_act 213 = .ok (.aload_n 0, 1) := by decide +kernel
theorem dL_act_214 : decode cL_act 214 = .ok (.iload_n 2, 1) := by decide +kernel
theorem dL_act_215 : decode cL_act 215 = .ok (.bipush 6, 2) := by decide +kernel
theorem dL_act_217 : decode cL_act 217 = .ok (.invokestatic 9, 3) := by decide +kernel
theorem dL_act_220 : decode cL_act 220 = .ok (.iload_n 3, 1) := by decide +kernel
theorem dL_act_221 : decode cL_act 221 = .ok (.bipush 25, 2) := by decide +kernel
theorem dL_act_223 : decode cL_act 223 = .ok (.invokestatic 9, 3) := by decide +kernel
theorem dL_act_226 : decode cL_act 226 = .ok (.invokevirtual 47, 3) := by decide +kernel
theorem dL_act_229 : decode cL_act 229 = .ok (.ireturn, 1) := by decide +kernel
theorem dL_act_230 : decode cL_act 230 = .ok (.aload_n 0, 1) := by decide +kernel
theorem dL_act_231 : decode cL_act 231 = .ok (.invokevirtual 50, 3) := by decide +kernel
theorem dL_act_234 : decode cL_act 234 = .ok (.ireturn, 1) := by decide +kernel
theorem dL_isBill_0 : decode cL_isBill 0 = .ok (.aload_n 0, 1) := by decide +kernel
theorem dL_isBill_1 : decode cL_isBill 1 = .ok (.iload_n 1, 1) := by decide +kernel
theorem dL_isBill_2 : decode cL_isBill 2 = .ok (.bipush 6, 2) := by decide +kernel
theorem dL_isBill_4 : decode cL_isBill 4 = .ok (.invokevirtual 53, 3) := by decide +kernel
theorem dL_isBill_7 : decode cL_isBill 7 = .ok (.istore_n 2, 1) := by decide +kernel
theorem dL_isBill_8 : decode cL_isBill 8 = .ok (.aload_n 0, 1) := by decide +kernel
theorem dL_isBill_9 : decode cL_isBill 9 = .ok (.iload_n 1, 1) := by decide +kernel
theorem dL_isBill_10 : decode cL_isBill 10 = .ok (.bipush 10, 2) := by decide +kernel
theorem dL_isBill_12 : decode cL_isBill 12 = .ok (.invokevirtual 53, 3) := by decide +kernel
theorem dL_isBill_15 : decode cL_isBill 15 = .ok (.istore_n 3, 1) := by decide +kernel
theorem dL_isBill_16 : decode cL_isBill 16 = .ok (.aload_n 0, 1) := by decide +kernel
theorem dL_isBill_17 : decode cL_isBill 17 = .ok (.iload_n 1, 1) := by decide +kernel
theorem dL_isBill_18 : decode cL_isBill 18 = .ok (.iconst 3, 1) := by decide +kernel
theorem dL_isBill_19 : decode cL_isBill 19 = .ok (.invokevirtual 53, 3) := by decide +kernel
theorem dL_isBill_22 : decode cL_isBill 22 = .ok (.istore 4, 2) := by decide +kernel
theorem dL_isBill_24 : decode cL_isBill 24 = .ok (.aload_n 0, 1) := by decide +kernel
theorem dL_isBill_25 : decode cL_isBill 25 = .ok (.iconst 0, 1) := by decide +kernel
theorem dL_isBill_26 : decode cL_isBill 26 = .ok (.invokevirtual 24, 3) := by decide +kernel
theorem dL_isBill_29 : decode cL_isBill 29 = .ok (.istore 5, 2) := by decide +kernel
theorem dL_isBill_31 : decode cL_isBill 31 = .ok (.iload_n 2, 1) := by decide +kernel
theorem dL_isBill_32 : decode cL_isBill 32 = .ok (.ifCond .ne 18, 3) := by decide +kernel
theorem dL_isBill_35 : decode cL_isBill 35 = .ok (.iload 5, 2) := by decide +kernel
theorem dL_isBill_37 : decode cL_isBill 37 = .ok (.aload_n 0, 1) := by decide +kernel
theorem dL_isBill_38 : decode cL_isBill 38 = .ok (.iload_n 1, 1) := by decide +kernel
theorem dL_isBill_39 : decode cL_isBill 39 = .ok (.iconst 5, 1) := by decide +kernel
theorem dL_isBill_40 : decode cL_isBill 40 = .ok (.invokevirtual 53, 3) := by decide +kernel
theorem dL_isBill_43 : decode cL_isBill 43 = .ok (.if_icmp .le 7, 3) := by decide +kernel
theorem dL_isBill_46 : decode cL_isBill 46 = .ok (.iconst 1, 1) := by decide +kernel
theorem dL_isBill_47 : decode cL_isBill 47 = .ok (.goto 4, 3) := by decide +kernel
theorem dL_isBill_50 : decode cL_isBill 50 = .ok (.iconst 0, 1) := by decide +kernel
theorem dL_isBill_51 : decode cL_isBill 51 = .ok (.istore 6, 2) := by decide +kernel
theorem dL_isBill_53 : decode cL_isBill 53 = .ok (.iload 4, 2) := by decide +kernel
theorem dL_isBill_55 : decode cL_isBill 55 = .ok (.aload_n 0, 1) := by decide +kernel
theorem dL_isBill_56 : decode cL_isBill 56 = .ok (.iload_n 1, 1) := by decide +kernel
theorem dL_isBill_57 : decode cL_isBill 57 = .ok (.iconst 1, 1) := by decide +kernel
theorem dL_isBill_58 : decode cL_isBill 58 = .ok (.invokevirtual 53, 3) := by decide +kernel
theorem dL_isBill_61 : decode cL_isBill 61 = .ok (.aload_n 0, 1) := by decide +kernel
theorem dL_isBill_62 : decode cL_isBill 62 = .ok (.iload_n 1, 1) := by decide +kernel
theorem dL_isBill_63 : decode cL_isBill 63 = .ok (.iconst 2, 1) := by decide +kernel
theorem dL_isBill_64 : decode cL_isBill 64 = .ok (.invokevirtual 53, 3) := by decide +kernel
theorem dL_isBill_67 : decode cL_isBill 67 = .ok (.iadd, 1) := by decide +kernel
theorem dL_isBill_68 : decode cL_isBill 68 = .ok (.if_icmp .ne 37, 3) := by decide +kernel
theorem dL_isBill_71 : decode cL_isBill 71 = .ok (.iload_n 3, 1) := by decide +kernel
theorem dL_isBill_72 : decode cL_isBill 72 = .ok (.iload 4, 2) := by decide +kernel
theorem dL_isBill_74 : decode cL_isBill 74 = .ok (.aload_n 0, 1) := by decide +kernel
theorem dL_isBill_75 : decode cL_isBill 75 = .ok (.iload_n 1, 1) := by decide +kernel
theorem dL_isBill_76 : decode cL_isBill 76 = .ok (.bipush 9, 2) := by decide +kernel
theorem dL_isBill_78 : decode cL_isBill 78 = .ok (.invokevirtual 53, 3) := by decide +kernel
theorem dL_isBill_81 : decode cL_isBill 81 = .ok (.iadd, 1) := by decide +kernel
theorem dL_isBill_82 : decode cL_isBill 82 = .ok (.aload_n 0, 1) := by decide +kernel
theorem dL_isBill_83 : decode cL_isBill 83 = .ok (.iload_n 1, 1) := by decide +kernel
theorem dL_isBill_84 : decode cL_isBill 84 = .ok (.bipush 7, 2) := by decide +kernel
theorem dL_isBill_86 : decode cL_isBill 86 = .ok (.invokevirtual 53, 3) := by decide +kernel
theorem dL_isBill_89 : decode cL_isBill 89 = .ok (.isub, 1) := by decide +kernel
theorem dL_isBill_90 : decode cL_isBill 90 = .ok (.aload_n 0, 1) := by decide +kernel
theorem dL_isBill_91 : decode cL_isBill 91 = .ok (.iload_n 1, 1) := by decide +kernel
theorem dL_isBill_92 : decode cL_isBill 92 = .ok (.bipush 8, 2) := by decide +kernel
theorem dL_isBill_94 : decode cL_isBill 94 = .ok (.invokevirtual 53, 3) := by decide +kernel
theorem dL_isBill_97 : decode cL_isBill 97 = .ok (.isub, 1) := by decide +kernel
theorem dL_isBill_98 : decode cL_isBill 98 = .ok (.if_icmp .ne 7, 3) := by decide +kernel
theorem dL_isBill_101 : decode cL_isBill 101 = .ok (.iconst 1, 1) := by decide +kernel
theorem dL_isBill_102 : decode cL_isBill 102 = .ok (.goto 4, 3) := by decide +kernel
theorem dL_isBill_105 : decode cL_isBill 105 = .ok (.iconst 0, 1) := by decide +kernel
theorem dL_isBill_106 : decode cL_isBill 106 = .ok (.istore 7, 2) := by decide +kernel
theorem dL_isBill_108 : decode cL_isBill 108 = .ok (.iload 7, 2) := by decide +kernel
theorem dL_isBill_110 : decode cL_isBill 110 = .ok (.ifCond .eq 70, 3) := by decide +kernel
theorem dL_isBill_113 : decode cL_isBill 113 = .ok (.iload_n 3, 1) := by decide +kernel
theorem dL_isBill_114 : decode cL_isBill 114 = .ok (.ifCond .lt 66, 3) := by decide +kernel
theorem dL_isBill_117 : decode cL_isBill 117 = .ok (.iload_n 2, 1) := by decide +kernel
theorem dL_isBill_118 : decode cL_isBill 118 = .ok (.iconst 1, 1) := by decide +kernel
theorem dL_isBill_119 : decode cL_isBill 119 = .ok (.if_icmp .ne 7, 3) := by decide +kernel
theorem dL_isBill_122 : decode cL_isBill 122 = .ok (.iconst 1, 1) := by decide +kernel
theorem dL_isBill_123 : decode cL_isBill 123 = .ok (.goto 4, 3) := by decide +kernel
theorem dL_isBill_126 : decode cL_isBill 126 = .ok (.iconst 0, 1) := by decide +kernel
theorem dL_isBill_127 : decode cL_isBill 127 = .ok (.iload_n 3, 1) := by decide +kernel
theorem dL_isBill_128 : decode cL_isBill 128 = .ok (.ifCond .ne 7, 3) := by decide +kernel
theorem dL_isBill_131 : decode cL_isBill 131 = .ok (.iconst 1, 1) := by decide +kernel
theorem dL_isBill_132 : decode cL_isBill 132 = .ok (.goto 4, 3) := by decide +kernel
theorem dL_isBill_135 : decode cL_isBill 135 = .ok (.iconst 0, 1) := by decide +kernel
theorem dL_isBill_136 : decode cL_isBill 136 = .ok (.if_icmp .ne 44, 3) := by decide +kernel
theorem dL_isBill_139 : decode cL_isBill 139 = .ok (.aload_n 0, 1) := by decide +kernel
theorem dL_isBill_140 : decode cL_isBill 140 = .ok (.iload_n 1, 1) := by decide +kernel
theorem dL_isBill_141 : decode cL_isBill 141 = .ok (.bipush 11, 2) := by decide +kernel
theorem dL_isBill_143 : decode cL_isBill 143 = .ok (.invokevirtual 53, 3) := by decide +kernel
theorem dL_isBill_146 : decode cL_isBill 146 = .ok (.ifCond .lt 34, 3) := by decide +kernel
theorem dL_isBill_149 : decode cL_isBill 149 = .ok (.aload_n 0, 1) := by decide +kernel
theorem dL_isBill_150 : decode cL_isBill 150 = .ok (.iload_n 1, 1) := by decide +kernel
theorem dL_isBill_151 : decode cL_isBill 151 = .ok (.bipush 11, 2) := by decide +kernel
theorem dL_isBill_153 : decode cL_isBill 153 = .ok (.invokevirtual 53, 3) := by decide +kernel
theorem dL_isBill_156 : decode cL_isBill 156 = .ok (.iconst 3, 1) := by decide +kernel
theorem dL_isBill_157 : decode cL_isBill 157 = .ok (.if_icmp .gt 23, 3) := by decide +kernel
theorem dL_isBill_160 : decode cL_isBill 160 = .ok (.iload_n 2, 1) := by decide +kernel
theorem dL_isBill_161 : decode cL_isBill 161 = .ok (.iconst 2, 1) := by decide +kernel
theorem dL_isBill_162 : decode cL_isBill 162 = .ok (.if_icmp .ne 14, 3) := by decide +kernel
theorem dL_isBill_165 : decode cL_isBill 165 = .ok (.aload_n 0, 1) := by decide +kernel
theorem dL_isBill_166 : decode cL_isBill 166 = .ok (.iload_n 1, 1) := by decide +kernel
theorem dL_isBill_167 : decode cL_isBill 167 = .ok (.bipush 11, 2) := by decide +kernel
theorem dL_isBill_169 : decode cL_isBill 169 = .ok (.invokevirtual 53, 3) := by decide +kernel
theorem dL_isBill_172 : decode cL_isBill 172 = .ok (.iconst 3, 1) := by decide +kernel
theorem dL_isBill_173 : decode cL_isBill 173 = .ok (.if_icmp .ne 7, 3) := by decide +kernel
theorem dL_isBill_176 : decode cL_isBill 176 = .ok (.iconst 1, 1) := by decide +kernel
theorem dL_isBill_177 : decode cL_isBill 177 = .ok (.goto 4, 3) := by decide +kernel
theorem dL_isBill_180 : decode cL_isBill 180 = .ok (.iconst 0, 1) := by decide +kernel
theorem dL_isBill_181 : decode cL_isBill 181 = .ok (.istore 7, 2) := by decide +kernel
theorem dL_isBill_183 : decode cL_isBill 183 = .ok (.iload 7, 2) := by decide +kernel
theorem dL_isBill_185 : decode cL_isBill 185 = .ok (.ifCond .eq 85, 3) := by decide +kernel
theorem dL_isBill_188 : decode cL_isBill 188 = .ok (.aload_n 0, 1) := by decide +kernel
theorem dL_isBill_189 : decode cL_isBill 189 = .ok (.iload_n 1, 1) := by decide +kernel
theorem dL_isBill_190 : decode cL_isBill 190 = .ok (.bipush 13, 2) := by decide +kernel
theorem dL_isBill_192 : decode cL_isBill 192 = .ok (.invokevirtual 53, 3) := by decide +kernel
theorem dL_isBill_195 : decode cL_isBill 195 = .ok (.iload 6, 2) := by decide +kernel
theorem dL_isBill_197 : decode cL_isBill 197 = .ok (.ifCond .eq 7, 3) := by decide +kernel
theorem dL_isBill_200 : decode cL_isBill 200 = .ok (.iconst 1, 1) := by decide +kernel
theorem dL_isBill_201 : decode cL_isBill 201 = .ok (.goto 4, 3) := by decide +kernel
theorem dL_isBill_204 : decode cL_isBill 204 = .ok (.iconst 0, 1) := by decide +kernel
theorem dL_isBill_205 : decode cL_isBill 205 = .ok (.if_icmp .ne 65, 3) := by decide +kernel
theorem dL_isBill_208 : decode cL_isBill 208 = .ok (.aload_n 0, 1) := by decide +kernel
theorem dL_isBill_209 : decode cL_isBill 209 = .ok (.iload_n 1, 1) := by decide +kernel
theorem dL_isBill_210 : decode cL_isBill 210 = .ok (.iconst 4, 1) := by decide +kernel
theorem dL_isBill_211 : decode cL_isBill 211 = .ok (.invokevirtual 53, 3) := by decide +kernel
theorem dL_isBill_214 : decode cL_isBill 214 = .ok (.iload 5, 2) := by decide +kernel
theorem dL_isBill_216 : decode cL_isBill 216 = .ok (.if_icmp .gt 54, 3) := by decide +kernel
theorem dL_isBill_219 : decode cL_isBill 219 = .ok (.aload_n 0, 1) := by decide +kernel
theorem dL_isBill_220 : decode cL_isBill 220 = .ok (.iload_n 1, 1) := by decide +kernel
theorem dL_isBill_221 : decode cL_isBill 221 = .ok (.bipush 12, 2) := by decide +kernel
theorem dL_isBill_223 : decode cL_isBill 223 = .ok (.invokevirtual 53, 3) := by decide +kernel
theorem dL_isBill_226 : decode cL_isBill 226 = .ok (.iload 5, 2) := by decide +kernel
theorem dL_isBill_228 : decode cL_isBill 228 = .ok (.if_icmp .gt 42, 3) := by decide +kernel
theorem dL_isBill_231 : decode cL_isBill 231 = .ok (.aload_n 0, 1) := by decide +kernel
theorem dL_isBill_232 : decode cL_isBill 232 = .ok (.iload_n 1, 1) := by decide +kernel
theorem dL_isBill_233 : decode cL_isBill 233 = .ok (.bipush 12, 2) := by decide +kernel
theorem dL_isBill_235 : decode cL_isBill 235 = .ok (.invokevirtual 53, 3) := by decide +kernel
theorem dL_isBill_238 : decode cL_isBill 238 = .ok (.bipush (-5), 2) := by decide +kernel
theorem dL_isBill_240 : decode cL_isBill 240 = .ok (.if_icmp .ne 7, 3) := by decide +kernel
theorem dL_isBill_243 : decode cL_isBill 243 = .ok (.iconst 1, 1) := by decide +kernel
theorem dL_isBill_244 : decode cL_isBill 244 = .ok (.goto 4, 3) := by decide +kernel
theorem dL_isBill_247 : decode cL_isBill 247 = .ok (.iconst 0, 1) := by decide +kernel
theorem dL_isBill_248 : decode cL_isBill 248 = .ok (.aload_n 0, 1) := by decide +kernel
theorem dL_isBill_249 : decode cL_isBill 249 = .ok (.iload_n 1, 1) := by decide +kernel
theorem dL_isBill_250 : decode cL_isBill 250 = .ok (.bipush 7, 2) := by decide +kernel
theorem dL_isBill_252 : decode cL_isBill 252 = .ok (.invokevirtual 53, 3) := by decide +kernel
theorem dL_isBill_255 : decode cL_isBill 255 = .ok (.ifCond .ne 7, 3) := by decide +kernel
theorem dL_isBill_258 : decode cL_isBill 258 = .ok (.iconst 1, 1) := by decide +kernel
theorem dL_isBill_259 : decode cL_isBill 259 = .ok (.goto 4, 3) := by decide +kernel
theorem dL_isBill_262 : decode cL_isBill 262 = .ok (.iconst 0, 1) := by decide +kernel
theorem dL_isBill_263 : decode cL_isBill 263 = .ok (.if_icmp .ne 7, 3) := by decide +kernel
theorem dL_isBill_266 : decode cL_isBill 266 = .ok (.iconst 1, 1) := by decide +kernel
theorem dL_isBill_267 : decode cL_isBill 267 = .ok (.goto 4, 3) := by decide +kernel
theorem dL_isBill_270 : decode cL_isBill 270 = .ok (.iconst 0, 1) := by decide +kernel
theorem dL_isBill_271 : decode cL_isBill 271 = .ok (.istore 7, 2) := by decide +kernel
theorem dL_isBill_273 : decode cL_isBill 273 = .ok (.aload_n 0, 1) := by decide +kernel
theorem dL_isBill_274 : decode cL_isBill 274 = .ok (.iload_n 1, 1) := by decide +kernel
theorem dL_isBill_275 : decode cL_isBill 275 = .ok (.invokevirtual 56, 3) := by decide +kernel
theorem dL_isBill_278 : decode cL_isBill 278 = .ok (.istore 8, 2) := by decide +kernel
theorem dL_isBill_280 : decode cL_isBill 280 = .ok (.aload_n 0, 1) := by decide +kernel
theorem dL_isBill_281 : decode cL_isBill 281 = .ok (.iload_n 1, 1) := by decide +kernel
theorem dL_isBill_282 : decode cL_isBill 282 = .ok (.invokevirtual 59, 3) := by decide +kernel
theorem dL_isBill_285 : decode cL_isBill 285 = .ok (.istore 9, 2) := by decide +kernel
theorem dL_isBill_287 : decode cL_isBill 287 = .ok (.iload 7, 2) := by decide +kernel
theorem dL_isBill_289 : decode cL_isBill 289 = .ok (.ifCond .eq 80, 3) := by decide +kernel
theorem dL_isBill_292 : decode cL_isBill 292 = .ok (.iload_n 2, 1) := by decide +kernel
theorem dL_isBill_293 : decode cL_isBill 293 = .ok (.iconst 1, 1) := by decide +kernel
theorem dL_isBill_294 : decode cL_isBill 294 = .ok (.if_icmp .ne 12, 3) := by decide +kernel
theorem dL_isBill_297 : decode cL_isBill 297 = .ok (.iload 8, 2) := by decide +kernel
theorem dL_isBill_299 : decode cL_isBill 299 = .ok (.iconst 1, 1) := by decide +kernel
theorem dL_isBill_300 : decode cL_isBill 300 = .ok (.if_icmp .ne 69, 3) := by decide +kernel
theorem dL_isBill_303 : decode cL_isBill 303 = .ok (.goto 62, 3) := by decide +kernel
theorem dL_isBill_306 : decode cL_isBill 306 = .ok (.iload_n 2, 1) := by decide +kernel
theorem dL_isBill_307 : decode cL_isBill 307 = .ok (.iconst 2, 1) := by decide +kernel
theorem dL_isBill_308 : decode cL_isBill 308 = .ok (.if_icmp .ne 12, 3) := by decide +kernel
theorem dL_isBill_311 : decode cL_isBill 311 = .ok (.iload 8, 2) := by decide +kernel
theorem dL_isBill_313 : decode cL_isBill 313 = .ok (.iconst 2, 1) := by decide +kernel
theorem dL_isBill_314 : decode cL_isBill 314 = .ok (.if_icmp .ne 55, 3) := by decide +kernel
theorem dL_isBill_317 : decode cL_isBill 317 = .ok (.goto 48, 3) := by decide +kernel
theorem dL_isBill_320 : decode cL_isBill 320 = .ok (.iload 6, 2) := by decide +kernel
theorem dL_isBill_322 : decode cL_isBill 322 = .ok (.ifCond .ne 12, 3) := by decide +kernel
theorem dL_isBill_325 : decode cL_isBill 325 = .ok (.iload 8, 2) := by decide +kernel
theorem dL_isBill_327 : decode cL_isBill 327 = .ok (.iconst 3, 1) := by decide +kernel
theorem dL_isBill_328 : decode cL_isBill 328 = .ok (.if_icmp .ne 41, 3) := by decide +kernel
theorem dL_isBill_331 : decode cL_isBill 331 = .ok (.goto 34, 3) := by decide +kernel
theorem dL_isBill_334 : decode cL_isBill 334 = .ok (.aload_n 0, 1) := by decide +kernel
theorem dL_isBill_335 : decode cL_isBill 335 = .ok (.iload_n 1, 1) := by decide +kernel
theorem dL_isBill_336 : decode cL_isBill 336 = .ok (.bipush 11, 2) := by decide +kernel
theorem dL_isBill_338 : decode cL_isBill 338 = .ok (.invokevirtual 53, 3) := by decide +kernel
theorem dL_isBill_341 : decode cL_isBill 341 = .ok (.iconst 3, 1) := by decide +kernel
theorem dL_isBill_342 : decode cL_isBill 342 = .ok (.if_icmp .ne 12, 3) := by decide +kernel
theorem dL_isBill_345 : decode cL_isBill 345 = .ok (.iload 8, 2) := by decide +kernel
theorem dL_isBill_347 : decode cL_isBill 347 = .ok (.iconst 4, 1) := by decide +kernel
theorem dL_isBill_348 : decode cL_isBill 348 = .ok (.if_icmp .ne 21, 3) := by decide +kernel
theorem dL_isBill_351 : decode cL_isBill 351 = .ok (.goto 14, 3) := by decide +kernel
theorem dL_isBill_354 : decode cL_isBill 354 = .ok (.iload 8, 2) := by decide +kernel
theorem dL_isBill_356 : decode cL_isBill 356 = .ok (.iconst 5, 1) := by decide +kernel
theorem dL_isBill_357 : decode cL_isBill 357 = .ok (.if_icmp .eq 8, 3) := by decide +kernel
theorem dL_isBill_360 : decode cL_isBill 360 = .ok (.iload 8, 2) := by decide +kernel
theorem dL_isBill_362 : decode cL_isBill 362 = .ok (.ifCond .ne 7, 3) := by decide +kernel
theorem dL_isBill_365 : decode cL_isBill 365 = .ok (.iconst 1, 1) := by decide +kernel
theorem dL_isBill_366 : decode cL_isBill 366 = .ok (.goto 4, 3) := by decide +kernel
theorem dL_isBill_369 : decode cL_isBill 369 = .ok (.iconst 0, 1) := by decide +kernel
theorem dL_isBill_370 : decode cL_isBill 370 = .ok (.istore 7, 2) := by decide +kernel
theorem dL_isBill_372 : decode cL_isBill 372 = .ok (.iload 7, 2) := by decide +kernel
theorem dL_isBill_374 : decode cL_isBill 374 = .ok (.ifCond .eq 50, 3) := by decide +kernel
theorem dL_isBill_377 : decode cL_isBill 377 = .ok (.iload 8, 2) := by decide +kernel
theorem dL_isBill_379 : decode cL_isBill 379 = .ok (.ifCond .ne 7, 3) := by decide +kernel
theorem dL_isBill_382 : decode cL_isBill 382 = .ok (.iconst 1, 1) := by decide +kernel
theorem dL_isBill_383 : decode cL_isBill 383 = .ok (.goto 4, 3) := by decide +kernel
theorem dL_isBill_386 : decode cL_isBill 386 = .ok (.iconst 0, 1) := by decide +kernel
theorem dL_isBill_387 : decode cL_isBill 387 = .ok (.iload 9, 2) := by decide +kernel
theorem dL_isBill_389 : decode cL_isBill 389 = .ok (.iload 5, 2) := by decide +kernel
theorem dL_isBill_391 : decode cL_isBill 391 = .ok (.if_icmp .ne 7, 3) := by decide +kernel
theorem dL_isBill_394 : decode cL_isBill 394 = .ok (.iconst 1, 1) := by decide +kernel
theorem dL_isBill_395 : decode cL_isBill 395 = .ok (.goto 4, 3) := by decide +kernel
theorem dL_isBill_398 : decode cL_isBill 398 = .ok (.iconst 0, 1) := by decide +kernel
theorem dL_isBill_399 : decode cL_isBill 399 = .ok (.if_icmp .ne 25, 3) := by decide +kernel
theorem dL_isBill_402 : decode cL_isBill 402 = .ok (.iload 9, 2) := by decide +kernel
theorem dL_isBill_404 : decode cL_isBill 404 = .ok (.bipush (-5), 2) := by decide +kernel
theorem dL_isBill_406 : decode cL_isBill 406 = .ok (.if_icmp .eq 14, 3) := by decide +kernel
theorem dL_isBill_409 : decode cL_isBill 409 = .ok (.iload 9, 2) := by decide +kernel
theorem dL_isBill_411 : decode cL_isBill 411 = .ok (.iload 5, 2) := by decide +kernel
theorem dL_isBill_413 : decode cL_isBill 413 = .ok (.if_icmp .lt 11, 3) := by decide +kernel
theorem dL_isBill_416 : decode cL_isBill 416 = .ok (.iload_n 2, 1) := by decide +kernel
theorem dL_isBill_417 : decode cL_isBill 417 = .ok (.ifCond .ne 7, 3) := by decide +kernel
theorem dL_isBill_420 : decode cL_isBill 420 = .ok (.iconst 1, 1) := by decide +kernel
theorem dL_isBill_421 : decode cL_isBill 421 = .ok (.goto 4, 3) := by decide +kernel
theorem dL_isBill_424 : decode cL_isBill 424 = .ok (.iconst 0, 1) := by decide +kernel
theorem dL_isBill_425 : decode cL_isBill 425 = .ok (.ireturn, 1) := by decide +kernel
theorem dL_holds_0 : decode cL_holds 0 = .ok (.aload_n 0, 1) := by decide +kernel
theorem dL_holds_1 : decode cL_holds 1 = .ok (.iconst 1, 1) := by decide +kernel
theorem dL_holds_2 : decode cL_holds 2 = .ok (.invokevirtual 24, 3) := by decide +kernel
theorem dL_holds_5 : decode cL_holds 5 = .ok (.istore_n 1, 1) := by decide +kernel
theorem dL_holds_6 : decode cL_holds 6 = .ok (.iconst 0, 1) := by decide +kernel
theorem dL_holds_7 : decode cL_holds 7 = .ok (.istore_n 2, 1) := by decide +kernel
theorem dL_holds_8 : decode cL_holds 8 = .ok (.iconst 0, 1) := by decide +kernel
theorem dL_holds_9 : decode cL_holds 9 = .ok (.istore_n 3, 1) := by decide +kernel
theorem dL_holds_10 : decode cL_holds 10 = .ok (.iconst 0, 1) := by decide +kernel
theorem dL_holds_11 : decode cL_holds 11 = .ok (.istore 4, 2) := by decide +kernel
theorem dL_holds_13 : decode cL_holds 13 = .ok (.iconst 0, 1) := by decide +kernel
theorem dL_holds_14 : decode cL_holds 14 = .ok (.istore 5, 2) := by decide +kernel
theorem dL_holds_16 : decode cL_holds 16 = .ok (.iconst 0, 1) := by decide +kernel
theorem dL_holds_17 : decode cL_holds 17 = .ok (.istore 6, 2) := by decide +kernel
theorem dL_holds_19 : decode cL_holds 19 = .ok (.aload_n 0, 1) := by decide +kernel
theorem dL_holds_20 : decode cL_holds 20 = .ok (.iload_n 1, 1) := by decide +kernel
theorem dL_holds_21 : decode cL_holds 21 = .ok (.iconst 0, 1) := by decide +kernel
theorem dL_holds_22 : decode cL_holds 22 = .ok (.invokevirtual 53, 3) := by decide +kernel
theorem dL_holds_25 : decode cL_holds 25 = .ok (.iconst (-1), 1) := by decide +kernel
theorem dL_holds_26 : decode cL_holds 26 = .ok (.if_icmp .ne 7, 3) := by decide +kernel
theorem dL_holds_29 : decode cL_holds 29 = .ok (.iconst 1, 1) := by decide +kernel
theorem dL_holds_30 : decode cL_holds 30 = .ok (.goto 4, 3) := by decide +kernel
theorem dL_holds_33 : decode cL_holds 33 = .ok (.iconst 0, 1) := by decide +kernel
theorem dL_holds_34 : decode cL_holds 34 = .ok (.istore 7, 2) := by decide +kernel
theorem dL_holds_36 : decode cL_holds 36 = .ok (.iconst 0, 1) := by decide +kernel
theorem dL_holds_37 : decode cL_holds 37 = .ok (.istore 8, 2) := by decide +kernel
theorem dL_holds_39 : decode cL_holds 39 = .ok (.iload 8, 2) := by decide +kernel
theorem dL_holds_41 : decode cL_holds 41 = .ok (.iload_n 1, 1) := by decide +kernel
theorem dL_holds_42 : decode cL_holds 42 = .ok (.if_icmp .ge 82, 3) := by decide +kernel
theorem dL_holds_45 : decode cL_holds 45 = .ok (.iload 7, 2) := by decide +kernel
theorem dL_holds_47 : decode cL_holds 47 = .ok (.ifCond .eq 77, 3) := by decide +kernel
theorem dL_holds_50 : decode cL_holds 50 = .ok (.aload_n 0, 1) := by decide +kernel
theorem dL_holds_51 : decode cL_holds 51 = .ok (.iload 8, 2) := by decide +kernel
theorem dL_holds_53 : decode cL_holds 53 = .ok (.invokestatic 62, 3) := by decide +kernel
theorem dL_holds_56 : decode cL_holds 56 = .ok (.istore 7, 2) := by decide +kernel
theorem dL_holds_58 : decode cL_holds 58 = .ok (.iload_n 2, 1) := by decide +kernel
theorem dL_holds_59 : decode cL_holds 59 = .ok (.aload_n 0, 1) := by decide +kernel
theorem dL_holds_60 : decode cL_holds 60 = .ok (.iload 8, 2) := by decide +kernel
theorem dL_holds_62 : decode cL_holds 62 = .ok (.bipush 7, 2) := by decide +kernel
theorem dL_holds_64 : decode cL_holds 64 = .ok (.invokevirtual 53, 3) := by decide +kernel
theorem dL_holds_67 : decode cL_holds 67 = .ok (.iadd, 1) := by decide +kernel
theorem dL_holds_68 : decode cL_holds 68 = .ok (.istore_n 2, 1) := by decide +kernel
theorem dL_holds_69 : decode cL_holds 69 = .ok (.iload 4, 2) := by decide +kernel
theorem dL_holds_71 : decode cL_holds 71 = .ok (.aload_n 0, 1) := by decide +kernel
theorem dL_holds_72 : decode cL_holds 72 = .ok (.iload 8, 2) := by decide +kernel
theorem dL_holds_74 : decode cL_holds 74 = .ok (.bipush 8, 2) := by decide +kernel
theorem dL_holds_76 : decode cL_holds 76 = .ok (.invokevirtual 53, 3) := by decide +kernel
theorem dL_holds_79 : decode cL_holds 79 = .ok (.iadd, 1) := by decide +kernel
theorem dL_holds_80 : decode cL_holds 80 = .ok (.istore 4, 2) := by decide +kernel
theorem dL_holds_82 : decode cL_holds 82 = .ok (.iload_n 3, 1) := by decide +kernel
theorem dL_holds_83 : decode cL_holds 83 = .ok (.aload_n 0, 1) := by decide +kernel
theorem dL_holds_84 : decode cL_holds 84 = .ok (.iload 8, 2) := by decide +kernel
theorem dL_holds_86 : decode cL_holds 86 = .ok (.bipush 9, 2) := by decide +kernel
theorem dL_holds_88 : decode cL_holds 88 = .ok (.invokevirtual 53, 3) := by decide +kernel
theorem dL_holds_91 : decode cL_holds 91 = .ok (.iadd, 1) := by decide +kernel
theorem dL_holds_92 : decode cL_holds 92 = .ok (.istore_n 3, 1) := by decide +kernel
theorem dL_holds_93 : decode cL_holds 93 = .ok (.iload 5, 2) := by decide +kernel
theorem dL_holds_95 : decode cL_holds 95 = .ok (.aload_n 0, 1) := by decide +kernel
theorem dL_holds_96 : decode cL_holds 96 = .ok (.iload 8, 2) := by decide +kernel
theorem dL_holds_98 : decode cL_holds 98 = .ok (.bipush 11, 2) := by decide +kernel
theorem dL_holds_100 : decode cL_holds 100 = .ok (.invokevirtual 53, 3) := by decide +kernel
theorem dL_holds_103 : decode cL_holds 103 = .ok (.iadd, 1) := by decide +kernel
theorem dL_holds_104 : decode cL_holds 104 = .ok (.istore 5, 2) := by decide +kernel
theorem dL_holds_106 : decode cL_holds 106 = .ok (.iload 6, 2) := by decide +kernel
theorem dL_holds_108 : decode cL_holds 108 = .ok (.aload_n 0, 1) := by decide +kernel
theorem dL_holds_109 : decode cL_holds 109 = .ok (.iload 8, 2) := by decide +kernel
theorem dL_holds_111 : decode cL_holds 111 = .ok (.iconst 2, 1) := by decide +kernel
theorem dL_holds_112 : decode cL_holds 112 = .ok (.invokevirtual 53, 3) := by decide +kernel
theorem dL_holds_115 : decode cL_holds 115 = .ok (.iadd, 1) := by decide +kernel
theorem dL_holds_116 : decode cL_holds 116 = .ok (.istore 6, 2) := by decide +kernel
theorem dL_holds_118 : decode cL_holds 118 = .ok (.iinc 8 1, 3) := by decide +kernel
theorem dL_holds_121 : decode cL_holds 121 = .ok (.goto (-82), 3) := by decide +kernel
theorem dL_holds_124 : decode cL_holds 124 = .ok (.iconst 0, 1) := by decide +kernel
theorem dL_holds_125 : decode cL_holds 125 = .ok (.istore 8, 2) := by decide +kernel
theorem dL_holds_127 : decode cL_holds 127 = .ok (.aload_n 0, 1) := by decide +kernel
theorem dL_holds_128 : decode cL_holds 128 = .ok (.invokevirtual 66, 3) := by decide +kernel
theorem dL_holds_131 : decode cL_holds 131 = .ok (.istore 9, 2) := by decide +kernel
theorem dL_holds_133 : decode cL_holds 133 = .ok (.iconst 0, 1) := by decide +kernel
theorem dL_holds_134 : decode cL_holds 134 = .ok (.istore 10, 2) := by decide +kernel
theorem dL_holds_136 : decode cL_holds 136 = .ok (.iload 10, 2) := by decide +kernel
theorem dL_holds_138 : decode cL_holds 138 = .ok (.bipush 8, 2) := by decide +kernel
theorem dL_holds_140 : decode cL_holds 140 = .ok (.if_icmp .ge 139, 3) := by decide +kernel
theorem dL_holds_143 : decode cL_holds 143 = .ok (.iload 7, 2) := by decide +kernel
theorem dL_holds_145 : decode cL_holds 145 = .ok (.ifCond .eq 134, 3) := by decide +kernel
theorem dL_holds_148 : decode cL_holds 148 = .ok (.iload 8, 2) := by decide +kernel
theorem dL_holds_150 : decode cL_holds 150 = .ok (.aload_n 0, 1) := by decide +kernel
theorem dL_holds_151 : decode cL_holds 151 = .ok (.iload 10, 2) := by decide +kernel
theorem dL_holds_153 : decode cL_holds 153 = .ok (.iconst 2, 1) := by decide +kernel
theorem dL_holds_154 : decode cL_holds 154 = .ok (.invokevirtual 69, 3) := by decide +kernel
theorem dL_holds_157 : decode cL_holds 157 = .ok (.iadd, 1) := by decide +kernel
theorem dL_holds_158 : decode cL_holds 158 = .ok (.istore 8, 2) := by decide +kernel
theorem dL_holds_160 : decode cL_holds 160 = .ok (.iload 9, 2) := by decide +kernel
theorem dL_holds_162 : decode cL_holds 162 = .ok (.bipush (-5), 2) := by decide +kernel
theorem dL_holds_164 : decode cL_holds 164 = .ok (.if_icmp .ne 21, 3) := by decide +kernel
theorem dL_holds_167 : decode cL_holds 167 = .ok (.aload_n 0, 1) := by decide +kernel
theorem dL_holds_168 : decode cL_holds 168 = .ok (.iload 10, 2) := by decide +kernel
theorem dL_holds_170 : decode cL_holds 170 = .ok (.iconst 2, 1) := by decide +kernel
theorem dL_holds_171 : decode cL_holds 171 = .ok (.invokevirtual 69, 3) := by decide +kernel
theorem dL_holds_174 : decode cL_holds 174 = .ok (.ifCond .ne 7, 3) := by decide +kernel
theorem dL_holds_177 : decode cL_holds 177 = .ok (.iconst 1, 1) := by decide +kernel
theorem dL_holds_178 : decode cL_holds 178 = .ok (.goto 29, 3) := by decide +kernel
theorem dL_holds_181 : decode cL_holds 181 = .ok (.iconst 0, 1) := by decide +kernel
theorem dL_holds_182 : decode cL_holds 182 = .ok (.goto 25, 3) := by decide +kernel
theorem dL_holds_185 : decode cL_holds 185 = .ok (.aload_n 0, 1) := by decide +kernel
theorem dL_holds_186 : decode cL_holds 186 = .ok (.iload 10, 2) := by decide +kernel
theorem dL_holds_188 : decode cL_holds 188 = .ok (.iconst 2, 1) := by decide +kernel
theorem dL_holds_189 : decode cL_holds 189 = .ok (.invokevirtual 69, 3) := by decide +kernel
theorem dL_holds_192 : decode cL_holds 192 = .ok (.aload_n 0, 1) := by decide +kernel
theorem dL_holds_193 : decode cL_holds 193 = .ok (.iload 9, 2) := by decide +kernel
theorem dL_holds_195 : decode cL_holds 195 = .ok (.iconst 2, 1) := by decide +kernel
theorem dL_holds_196 : decode cL_holds 196 = .ok (.invokevirtual 69, 3) := by decide +kernel
theorem dL_holds_199 : decode cL_holds 199 = .ok (.if_icmp .gt 7, 3) := by decide +kernel
theorem dL_holds_202 : decode cL_holds 202 = .ok (.iconst 1, 1) := by decide +kernel
theorem dL_holds_203 : decode cL_holds 203 = .ok (.goto 4, 3) := by decide +kernel
theorem dL_holds_206 : decode cL_holds 206 = .ok (.iconst 0, 1) := by decide +kernel
theorem dL_holds_207 : decode cL_holds 207 = .ok (.istore 7, 2) := by decide +kernel
theorem dL_holds_209 : decode cL_holds 209 = .ok (.iload 7, 2) := by decide +kernel
theorem dL_holds_211 : decode cL_holds 211 = .ok (.ifCond .eq 59, 3) := by decide +kernel
theorem dL_holds_214 : decode cL_holds 214 = .ok (.aload_n 0, 1) := by decide +kernel
theorem dL_holds_215 : decode cL_holds 215 = .ok (.iload 10, 2) := by decide +kernel
theorem dL_holds_217 : decode cL_holds 217 = .ok (.bipush 6, 2) := by decide +kernel
theorem dL_holds_219 : decode cL_holds 219 = .ok (.invokevirtual 69, 3) := by decide +kernel
theorem dL_holds_222 : decode cL_holds 222 = .ok (.bipush (-5), 2) := by decide +kernel
theorem dL_holds_224 : decode cL_holds 224 = .ok (.if_icmp .ne 7, 3) := by decide +kernel
theorem dL_holds_227 : decode cL_holds 227 = .ok (.iconst 1, 1) := by decide +kernel
theorem dL_holds_228 : decode cL_holds 228 = .ok (.goto 4, 3) := by decide +kernel
theorem dL_holds_231 : decode cL_holds 231 = .ok (.iconst 0, 1) := by decide +kernel
theorem dL_holds_232 : decode cL_holds 232 = .ok (.aload_n 0, 1) := by decide +kernel
theorem dL_holds_233 : decode cL_holds 233 = .ok (.iload 10, 2) := by decide +kernel
theorem dL_holds_235 : decode cL_holds 235 = .ok (.iconst 1, 1) := by decide +kernel
theorem dL_holds_236 : decode cL_holds 236 = .ok (.invokevirtual 69, 3) := by decide +kernel
theorem dL_holds_239 : decode cL_holds 239 = .ok (.ifCond .ne 7, 3) := by decide +kernel
theorem dL_holds_242 : decode cL_holds 242 = .ok (.iconst 1, 1) := by decide +kernel
theorem dL_holds_243 : decode cL_holds 243 = .ok (.goto 4, 3) := by decide +kernel
theorem dL_holds_246 : decode cL_holds 246 = .ok (.iconst 0, 1) := by decide +kernel
theorem dL_holds_247 : decode cL_holds 247 = .ok (.if_icmp .ne 23, 3) := by decide +kernel
theorem dL_holds_250 : decode cL_holds 250 = .ok (.aload_n 0, 1) := by decide +kernel
theorem dL_holds_251 : decode cL_holds 251 = .ok (.iload 10, 2) := by decide +kernel
theorem dL_holds_253 : decode cL_holds 253 = .ok (.invokevirtual 72, 3) := by decide +kernel
theorem dL_holds_256 : decode cL_holds 256 = .ok (.aload_n 0, 1) := by decide +kernel
theorem dL_holds_257 : decode cL_holds 257 = .ok (.iload 10, 2) := by decide +kernel
theorem dL_holds_259 : decode cL_holds 259 = .ok (.iconst 2, 1) := by decide +kernel
theorem dL_holds_260 : decode cL_holds 260 = .ok (.invokevirtual 69, 3) := by decide +kernel
theorem dL_holds_263 : decode cL_holds 263 = .ok (.if_icmp .gt 7, 3) := by decide +kernel
theorem dL_holds_266 : decode cL_holds 266 = .ok (.iconst 1, 1) := by decide +kernel
theorem dL_holds_267 : decode cL_holds 267 = .ok (.goto 4, 3) := by decide +kernel
theorem dL_holds_270 : decode cL_holds 270 = .ok (.iconst 0, 1) := by decide +kernel
theorem dL_holds_271 : decode cL_holds 271 = .ok (.istore 7, 2) := by decide +kernel
theorem dL_holds_273 : decode cL_holds 273 = .ok (.iinc 10 1, 3) := by decide +kernel
theorem dL_holds_276 : decode cL_holds 276 = .ok (.goto (-140), 3) := by decide +kernel
theorem dL_holds_279 : decode cL_holds 279 = .ok (.iconst 0, 1) := by decide +kernel
theorem dL_holds_280 : decode cL_holds 280 = .ok (.istore 10, 2) := by decide +kernel
theorem dL_holds_282 : decode cL_holds 282 = .ok (.iload 10, 2) := by decide +kernel
theorem dL_holds_284 : decode cL_holds 284 = .ok (.aload_n 0, 1) := by decide +kernel
theorem dL_holds_285 : decode cL_holds 285 = .ok (.iconst 0, 1) := by decide +kernel
theorem dL_holds_286 : decode cL_holds 286 = .ok (.invokevirtual 24, 3) := by decide +kernel
theorem dL_holds_289 : decode cL_holds 289 = .ok (.bipush 100, 2) := by decide +kernel
theorem dL_holds_291 : decode cL_holds 291 = .ok (.idiv, 1) := by decide +kernel
theorem dL_holds_292 : decode cL_holds 292 = .ok (.if_icmp .gt 69, 3) := by decide +kernel
theorem dL_holds_295 : decode cL_holds 295 = .ok (.iload 6, 2) := by decide +kernel
theorem dL_holds_297 : decode cL_holds 297 = .ok (.aload_n 0, 1) := by decide +kernel
theorem dL_holds_298 : decode cL_holds 298 = .ok (.iload 10, 2) := by decide +kernel
theorem dL_holds_300 : decode cL_holds 300 = .ok (.iconst 0, 1) := by decide +kernel
theorem dL_holds_301 : decode cL_holds 301 = .ok (.invokevirtual 75, 3) := by decide +kernel
theorem dL_holds_304 : decode cL_holds 304 = .ok (.isub, 1) := by decide +kernel
theorem dL_holds_305 : decode cL_holds 305 = .ok (.istore 6, 2) := by decide +kernel
theorem dL_holds_307 : decode cL_holds 307 = .ok (.iload 7, 2) := by decide +kernel
theorem dL_holds_309 : decode cL_holds 309 = .ok (.ifCond .eq 43, 3) := by decide +kernel
theorem dL_holds_312 : decode cL_holds 312 = .ok (.aload_n 0, 1) := by decide +kernel
theorem dL_holds_313 : decode cL_holds 313 = .ok (.iload 10, 2) := by decide +kernel
theorem dL_holds_315 : decode cL_holds 315 = .ok (.iconst 2, 1) := by decide +kernel
theorem dL_holds_316 : decode cL_holds 316 = .ok (.invokevirtual 75, 3) := by decide +kernel
theorem dL_holds_319 : decode cL_holds 319 = .ok (.bipush (-5), 2) := by decide +kernel
theorem dL_holds_321 : decode cL_holds 321 = .ok (.if_icmp .eq 7, 3) := by decide +kernel
theorem dL_holds_324 : decode cL_holds 324 = .ok (.iconst 1, 1) := by decide +kernel
theorem dL_holds_325 : decode cL_holds 325 = .ok (.goto 4, 3) := by decide +kernel
theorem dL_holds_328 : decode cL_holds 328 = .ok (.iconst 0, 1) := by decide +kernel
theorem dL_holds_329 : decode cL_holds 329 = .ok (.iload 10, 2) := by decide +kernel
theorem dL_holds_331 : decode cL_holds 331 = .ok (.aload_n 0, 1) := by decide +kernel
theorem dL_holds_332 : decode cL_holds 332 = .ok (.bipush 14, 2) := by decide +kernel
theorem dL_holds_334 : decode cL_holds 334 = .ok (.invokevirtual 24, 3) := by decide +kernel
theorem dL_holds_337 : decode cL_holds 337 = .ok (.if_icmp .ge 7, 3) := by decide +kernel
theorem dL_holds_340 : decode cL_holds 340 = .ok (.iconst 1, 1) := by decide +kernel
theorem dL_holds_341 : decode cL_holds 341 = .ok (.goto 4, 3) := by decide +kernel
theorem dL_holds_344 : decode cL_holds 344 = .ok (.iconst 0, 1) := by decide +kernel
theorem dL_holds_345 : decode cL_holds 345 = .ok (.if_icmp .ne 7, 3) := by decide +kernel
theorem dL_holds_348 : decode cL_holds 348 = .ok (.iconst 1, 1) := by decide +kernel
theorem dL_holds_349 : decode cL_holds 349 = .ok (.goto 4, 3) := by decide +kernel
theorem dL_holds_352 : decode cL_holds 352 = .ok (.iconst 0, 1) := by decide +kernel
theorem dL_holds_353 : decode cL_holds 353 = .ok (.istore 7, 2) := by decide +kernel
theorem dL_holds_355 : decode cL_holds 355 = .ok (.iinc 10 1, 3) := by decide +kernel
theorem dL_holds_358 : decode cL_holds 358 = .ok (.goto (-76), 3) := by decide +kernel
theorem dL_holds_361 : decode cL_holds 361 = .ok (.iload 7, 2) := by decide +kernel
theorem dL_holds_363 : decode cL_holds 363 = .ok (.ifCond .eq 55, 3) := by decide +kernel
theorem dL_holds_366 : decode cL_holds 366 = .ok (.iload 6, 2) := by decide +kernel
theorem dL_holds_368 : decode cL_holds 368 = .ok (.ifCond .ne 50, 3) := by decide +kernel
theorem dL_holds_371 : decode cL_holds 371 = .ok (.iload 8, 2) := by decide +kernel
theorem dL_holds_373 : decode cL_holds 373 = .ok (.aload_n 0, 1) := by decide +kernel
theorem dL_holds_374 : decode cL_holds 374 = .ok (.bipush 6, 2) := by decide +kernel
theorem dL_holds_376 : decode cL_holds 376 = .ok (.invokevirtual 24, 3) := by decide +kernel
theorem dL_holds_379 : decode cL_holds 379 = .ok (.if_icmp .ne 39, 3) := by decide +kernel
theorem dL_holds_382 : decode cL_holds 382 = .ok (.iload_n 3, 1) := by decide +kernel
theorem dL_holds_383 : decode cL_holds 383 = .ok (.aload_n 0, 1) := by decide +kernel
theorem dL_holds_384 : decode cL_holds 384 = .ok (.bipush 12, 2) := by decide +kernel
theorem dL_holds_386 : decode cL_holds 386 = .ok (.invokevirtual 24, 3) := by decide +kernel
theorem dL_holds_389 : decode cL_holds 389 = .ok (.if_icmp .ne 29, 3) := by decide +kernel
theorem dL_holds_392 : decode cL_holds 392 = .ok (.iload 4, 2) := by decide +kernel
theorem dL_holds_394 : decode cL_holds 394 = .ok (.aload_n 0, 1) := by decide +kernel
theorem dL_holds_395 : decode cL_holds 395 = .ok (.bipush 11, 2) := by decide +kernel
theorem dL_holds_397 : decode cL_holds 397 = .ok (.invokevirtual 24, 3) := by decide +kernel
theorem dL_holds_400 : decode cL_holds 400 = .ok (.if_icmp .ne 18, 3) := by decide +kernel
theorem dL_holds_403 : decode cL_holds 403 = .ok (.iload 5, 2) := by decide +kernel
theorem dL_holds_405 : decode cL_holds 405 = .ok (.aload_n 0, 1) := by decide +kernel
theorem dL_holds_406 : decode cL_holds 406 = .ok (.bipush 13, 2) := by decide +kernel
theorem dL_holds_408 : decode cL_holds 408 = .ok (.invokevirtual 24, 3) := by decide +kernel
theorem dL_holds_411 : decode cL_holds 411 = .ok (.if_icmp .ne 7, 3) := by decide +kernel
theorem dL_holds_414 : decode cL_holds 414 = .ok (.iconst 1, 1) := by decide +kernel
theorem dL_holds_415 : decode cL_holds 415 = .ok (.goto 4, 3) := by decide +kernel
theorem dL_holds_418 : decode cL_holds 418 = .ok (.iconst 0, 1) := by decide +kernel
theorem dL_holds_419 : decode cL_holds 419 = .ok (.istore 7, 2) := by decide +kernel
theorem dL_holds_421 : decode cL_holds 421 = .ok (.iload 7, 2) := by decide +kernel
theorem dL_holds_423 : decode cL_holds 423 = .ok (.ifCond .eq 52, 3) := by decide +kernel
theorem dL_holds_426 : decode cL_holds 426 = .ok (.aload_n 0, 1) := by decide +kernel
theorem dL_holds_427 : decode cL_holds 427 = .ok (.iconst 2, 1) := by decide +kernel
theorem dL_holds_428 : decode cL_holds 428 = .ok (.invokevirtual 24, 3) := by decide +kernel
theorem dL_holds_431 : decode cL_holds 431 = .ok (.aload_n 0, 1) := by decide +kernel
theorem dL_holds_432 : decode cL_holds 432 = .ok (.iconst 3, 1) := by decide +kernel
theorem dL_holds_433 : decode cL_holds 433 = .ok (.invokevirtual 24, 3) := by decide +kernel
theorem dL_holds_436 : decode cL_holds 436 = .ok (.iadd, 1) := by decide +kernel
theorem dL_holds_437 : decode cL_holds 437 = .ok (.aload_n 0, 1) := by decide +kernel
theorem dL_holds_438 : decode cL_holds 438 = .ok (.iconst 4, 1) := by decide +kernel
theorem dL_holds_439 : decode cL_holds 439 = .ok (.invokevirtual 24, 3) := by decide +kernel
theorem dL_holds_442 : decode cL_holds 442 = .ok (.iadd, 1) := by decide +kernel
theorem dL_holds_443 : decode cL_holds 443 = .ok (.iload_n 1, 1) := by decide +kernel
theorem dL_holds_444 : decode cL_holds 444 = .ok (.if_icmp .ne 31, 3) := by decide +kernel
theorem dL_holds_447 : decode cL_holds 447 = .ok (.aload_n 0, 1) := by decide +kernel
theorem dL_holds_448 : decode cL_holds 448 = .ok (.bipush 9, 2) := by decide +kernel
theorem dL_holds_450 : decode cL_holds 450 = .ok (.invokevirtual 24, 3) := by decide +kernel
theorem dL_holds_453 : decode cL_holds 453 = .ok (.iload_n 2, 1) := by decide +kernel
theorem dL_holds_454 : decode cL_holds 454 = .ok (.aload_n 0, 1) := by decide +kernel
theorem dL_holds_455 : decode cL_holds 455 = .ok (.bipush 8, 2) := by decide +kernel
theorem dL_holds_457 : decode cL_holds 457 = .ok (.invokevirtual 24, 3) := by decide +kernel
theorem dL_holds_460 : decode cL_holds 460 = .ok (.iadd, 1) := by decide +kernel
theorem dL_holds_461 : decode cL_holds 461 = .ok (.aload_n 0, 1) := by decide +kernel
theorem dL_holds_462 : decode cL_holds 462 = .ok (.bipush 10, 2) := by decide +kernel
theorem dL_holds_464 : decode cL_holds 464 = .ok (.invokevirtual 24, 3) := by decide +kernel
theorem dL_holds_467 : decode cL_holds 467 = .ok (.iadd, 1) := by decide +kernel
theorem dL_holds_468 : decode cL_holds 468 = .ok (.if_icmp .ne 7, 3) := by decide +kernel
theorem dL_holds_471 : decode cL_holds 471 = .ok (.iconst 1, 1) := by decide +kernel
theorem dL_holds_472 : decode cL_holds 472 = .ok (.goto 4, 3) := by decide +kernel
theorem dL_holds_475 : decode cL_holds 475 = .ok (.iconst 0, 1) := by decide +kernel
theorem dL_holds_476 : decode cL_holds 476 = .ok (.ireturn, 1) := by decide +kernel
theorem dL_tries_0 : decode cL_tries 0 = .ok (.iload_n 1, 1) := by decide +kernel
theorem dL_tries_1 : decode cL_tries 1 = .ok (.iconst 3, 1) := by decide +kernel
theorem dL_tries_2 : decode cL_tries 2 = .ok (.invokestatic 9, 3) := by decide +kernel
theorem dL_tries_5 : decode cL_tries 5 = .ok (.istore_n 2, 1) := by decide +kernel
theorem dL_tries_6 : decode cL_tries 6 = .ok (.aload_n 0, 1) := by decide +kernel
theorem dL_tries_7 : decode cL_tries 7 = .ok (.iload_n 2, 1) := by decide +kernel
theorem dL_tries_8 : decode cL_tries 8 = .ok (.iconst 1, 1) := by decide +kernel
theorem dL_tries_9 : decode cL_tries 9 = .ok (.invokevirtual 69, 3) := by decide +kernel
theorem dL_tries_12 : decode cL_tries 12 = .ok (.istore_n 3, 1) := by decide +kernel
theorem dL_tries_13 : decode cL_tries 13 = .ok (.aload_n 0, 1) := by decide +kernel
theorem dL_tries_14 : decode cL_tries 14 = .ok (.iload_n 2, 1) := by decide +kernel
theorem dL_tries_15 : decode cL_tries 15 = .ok (.iconst 3, 1) := by decide +kernel
theorem dL_tries_16 : decode cL_tries 16 = .ok (.invokevirtual 69, 3) := by decide +kernel
theorem dL_tries_19 : decode cL_tries 19 = .ok (.istore 4, 2) := by decide +kernel
theorem dL_tries_21 : decode cL_tries 21 = .ok (.aload_n 0, 1) := by decide +kernel
theorem dL_tries_22 : decode cL_tries 22 = .ok (.iload_n 2, 1) := by decide +kernel
theorem dL_tries_23 : decode cL_tries 23 = .ok (.invokevirtual 72, 3) := by decide +kernel
theorem dL_tries_26 : decode cL_tries 26 = .ok (.istore 5, 2) := by decide +kernel
theorem dL_tries_28 : decode cL_tries 28 = .ok (.iload 5, 2) := by decide +kernel
theorem dL_tries_30 : decode cL_tries 30 = .ok (.ifCond .ne 7, 3) := by decide +kernel
theorem dL_tries_33 : decode cL_tries 33 = .ok (.iconst 1, 1) := by decide +kernel
theorem dL_tries_34 : decode cL_tries 34 = .ok (.goto 4, 3) := by decide +kernel
theorem dL_tries_37 : decode cL_tries 37 = .ok (.iconst 0, 1) := by decide +kernel
theorem dL_tries_38 : decode cL_tries 38 = .ok (.iload_n 3, 1) := by decide +kernel
theorem dL_tries_39 : decode cL_tries 39 = .ok (.ifCond .ne 7, 3) := by decide +kernel
theorem dL_tries_42 : decode cL_tries 42 = .ok (.iconst 1, 1) := by decide +kernel
theorem dL_tries_43 : decode cL_tries 43 = .ok (.goto 4, 3) := by decide +kernel
theorem dL_tries_46 : decode cL_tries 46 = .ok (.iconst 0, 1) := by decide +kernel
theorem dL_tries_47 : decode cL_tries 47 = .ok (.if_icmp .ne 7, 3) := by decide +kernel
theorem dL_tries_50 : decode cL_tries 50 = .ok (.iconst 1, 1) := by decide +kernel
theorem dL_tries_51 : decode cL_tries 51 = .ok (.goto 4, 3) := by decide +kernel
theorem dL_tries_54 : decode cL_tries 54 = .ok (.iconst 0, 1) := by decide +kernel
theorem dL_tries_55 : decode cL_tries 55 = .ok (.istore 6, 2) := by decide +kernel
theorem dL_tries_57 : decode cL_tries 57 = .ok (.iload 6, 2) := by decide +kernel
theorem dL_tries_59 : decode cL_tries 59 = .ok (.ifCond .eq 123, 3) := by decide +kernel
theorem dL_tries_62 : decode cL_tries 62 = .ok (.iload_n 3, 1) := by decide +kernel
theorem dL_tries_63 : decode cL_tries 63 = .ok (.ifCond .le 119, 3) := by decide +kernel
theorem dL_tries_66 : decode cL_tries 66 = .ok (.iload 5, 2) := by decide +kernel
theorem dL_tries_68 : decode cL_tries 68 = .ok (.ldc 78, 2) := by decide +kernel
theorem dL_tries_70 : decode cL_tries 70 = .ok (.if_icmp .gt 112, 3) := by decide +kernel
theorem dL_tries_73 : decode cL_tries 73 = .ok (.iload 4, 2) := by decide +kernel
theorem dL_tries_75 : decode cL_tries 75 = .ok (.ldc 79, 2) := by decide +kernel
theorem dL_tries_77 : decode cL_tries 77 = .ok (.if_icmp .gt 105, 3) := by decide +kernel
theorem dL_tries_80 : decode cL_tries 80 = .ok (.aload_n 0, 1) := by decide +kernel
theorem dL_tries_81 : decode cL_tries 81 = .ok (.iload_n 2, 1) := by decide +kernel
theorem dL_tries_82 : decode cL_tries 82 = .ok (.iload 5, 2) := by decide +kernel
theorem dL_tries_84 : decode cL_tries 84 = .ok (.iconst 0, 1) := by decide +kernel
theorem dL_tries_85 : decode cL_tries 85 = .ok (.invokevirtual 80, 3) := by decide +kernel
theorem dL_tries_88 : decode cL_tries 88 = .ok (.iload_n 3, 1) := by decide +kernel
theorem dL_tries_89 : decode cL_tries 89 = .ok (.if_icmp .ne 58, 3) := by decide +kernel
theorem dL_tries_92 : decode cL_tries 92 = .ok (.aload_n 0, 1) := by decide +kernel
theorem dL_tries_93 : decode cL_tries 93 = .ok (.iload_n 2, 1) := by decide +kernel
theorem dL_tries_94 : decode cL_tries 94 = .ok (.iload 5, 2) := by decide +kernel
theorem dL_tries_96 : decode cL_tries 96 = .ok (.iconst 2, 1) := by decide +kernel
theorem dL_tries_97 : decode cL_tries 97 = .ok (.invokevirtual 80, 3) := by decide +kernel
theorem dL_tries_100 : decode cL_tries 100 = .ok (.iload 4, 2) := by decide +kernel
theorem dL_tries_102 : decode cL_tries 102 = .ok (.if_icmp .ne 45, 3) := by decide +kernel
theorem dL_tries_105 : decode cL_tries 105 = .ok (.aload_n 0, 1) := by decide +kernel
theorem dL_tries_106 : decode cL_tries 106 = .ok (.iload_n 2, 1) := by decide +kernel
theorem dL_tries_107 : decode cL_tries 107 = .ok (.iload 5, 2) := by decide +kernel
theorem dL_tries_109 : decode cL_tries 109 = .ok (.invokevirtual 21, 3) := by decide +kernel
theorem dL_tries_112 : decode cL_tries 112 = .ok (.iload_n 3, 1) := by decide +kernel
theorem dL_tries_113 : decode cL_tries 113 = .ok (.if_icmp .ne 34, 3) := by decide +kernel
theorem dL_tries_116 : decode cL_tries 116 = .ok (.aload_n 0, 1) := by decide +kernel
theorem dL_tries_117 : decode cL_tries 117 = .ok (.iload_n 2, 1) := by decide +kernel
theorem dL_tries_118 : decode cL_tries 118 = .ok (.iconst 1, 1) := by decide +kernel
theorem dL_tries_119 : decode cL_tries 119 = .ok (.invokevirtual 69, 3) := by decide +kernel
theorem dL_tries_122 : decode cL_tries 122 = .ok (.ifCond .ne 25, 3) := by decide +kernel
theorem dL_tries_125 : decode cL_tries 125 = .ok (.aload_n 0, 1) := by decide +kernel
theorem dL_tries_126 : decode cL_tries 126 = .ok (.iload_n 2, 1) := by decide +kernel
theorem dL_tries_127 : decode cL_tries 127 = .ok (.iconst 3, 1) := by decide +kernel
theorem dL_tries_128 : decode cL_tries 128 = .ok (.invokevirtual 69, 3) := by decide +kernel
theorem dL_tries_131 : decode cL_tries 131 = .ok (.iload 4, 2) := by decide +kernel
theorem dL_tries_133 : decode cL_tries 133 = .ok (.if_icmp .ne 14, 3) := by decide +kernel
theorem dL_tries_136 : decode cL_tries 136 = .ok (.aload_n 0, 1) := by decide +kernel
theorem dL_tries_137 : decode cL_tries 137 = .ok (.invokevirtual 50, 3) := by decide +kernel
theorem dL_tries_140 : decode cL_tries 140 = .ok (.ifCond .lt 7, 3) := by decide +kernel
theorem dL_tries_143 : decode cL_tries 143 = .ok (.iconst 1, 1) := by decide +kernel
theorem dL_tries_144 : decode cL_tries 144 = .ok (.goto 4, 3) := by decide +kernel
theorem dL_tries_147 : decode cL_tries 147 = .ok (.iconst 0, 1) := by decide +kernel
theorem dL_tries_148 : decode cL_tries 148 = .ok (.istore 6, 2) := by decide +kernel
theorem dL_tries_150 : decode cL_tries 150 = .ok (.iload 6, 2) := by decide +kernel
theorem dL_tries_152 : decode cL_tries 152 = .ok (.ifCond .eq 27, 3) := by decide +kernel
theorem dL_tries_155 : decode cL_tries 155 = .ok (.iload 5, 2) := by decide +kernel
theorem dL_tries_157 : decode cL_tries 157 = .ok (.iconst 1, 1) := by decide +kernel
theorem dL_tries_158 : decode cL_tries 158 = .ok (.if_icmp .eq 17, 3) := by decide +kernel
theorem dL_tries_161 : decode cL_tries 161 = .ok (.aload_n 0, 1) := by decide +kernel
theorem dL_tries_162 : decode cL_tries 162 = .ok (.iload_n 2, 1) := by decide +kernel
theorem dL_tries_163 : decode cL_tries 163 = .ok (.iload 5, 2) := by decide +kernel
theorem dL_tries_165 : decode cL_tries 165 = .ok (.iconst 1, 1) := by decide +kernel
theorem dL_tries_166 : decode cL_tries 166 = .ok (.isub, 1) := by decide +kernel
theorem dL_tries_167 : decode cL_tries 167 = .ok (.iconst 0, 1) := by decide +kernel
theorem dL_tries_168 : decode cL_tries 168 = .ok (.invokevirtual 80, 3) := by decide +kernel
theorem dL_tries_171 : decode cL_tries 171 = .ok (.iload_n 3, 1) := by decide +kernel
theorem dL_tries_172 : decode cL_tries 172 = .ok (.if_icmp .ge 7, 3) := by decide +kernel
theorem dL_tries_175 : decode cL_tries 175 = .ok (.iconst 1, 1) := by decide +kernel
theorem dL_tries_176 : decode cL_tries 176 = .ok (.goto 4, 3) := by decide +kernel
theorem dL_tries_179 : decode cL_tries 179 = .ok (.iconst 0, 1) := by decide +kernel
theorem dL_tries_180 : decode cL_tries 180 = .ok (.istore 6, 2) := by decide +kernel
theorem dL_tries_182 : decode cL_tries 182 = .ok (.iconst 1, 1) := by decide +kernel
theorem dL_tries_183 : decode cL_tries 183 = .ok (.iload_n 1, 1) := by decide +kernel
theorem dL_tries_184 : decode cL_tries 184 = .ok (.iconst 2, 1) := by decide +kernel
theorem dL_tries_185 : decode cL_tries 185 = .ok (.ishr, 1) := by decide +kernel
theorem dL_tries_186 : decode cL_tries 186 = .ok (.sipush 4000, 3) := by decide +kernel
theorem dL_tries_189 : decode cL_tries 189 = .ok (.invokestatic 9, 3) := by decide +kernel
theorem dL_tries_192 : decode cL_tries 192 = .ok (.iadd, 1) := by decide +kernel
theorem dL_tries_193 : decode cL_tries 193 = .ok (.istore 7, 2) := by decide +kernel
theorem dL_tries_195 : decode cL_tries 195 = .ok (.aload_n 0, 1) := by decide +kernel
theorem dL_tries_196 : decode cL_tries 196 = .ok (.iload_n 2, 1) := by decide +kernel
theorem dL_tries_197 : decode cL_tries 197 = .ok (.iload 7, 2) := by decide +kernel
theorem dL_tries_199 : decode cL_tries 199 = .ok (.iconst 0, 1) := by decide +kernel
theorem dL_tries_200 : decode cL_tries 200 = .ok (.invokevirtual 80, 3) := by decide +kernel
theorem dL_tries_203 : decode cL_tries 203 = .ok (.istore 8, 2) := by decide +kernel
theorem dL_tries_205 : decode cL_tries 205 = .ok (.aload_n 0, 1) := by decide +kernel
theorem dL_tries_206 : decode cL_tries 206 = .ok (.iload_n 2, 1) := by decide +kernel
theorem dL_tries_207 : decode cL_tries 207 = .ok (.iload 7, 2) := by decide +kernel
theorem dL_tries_209 : decode cL_tries 209 = .ok (.iconst 1, 1) := by decide +kernel
theorem dL_tries_210 : decode cL_tries 210 = .ok (.invokevirtual 80, 3) := by decide +kernel
theorem dL_tries_213 : decode cL_tries 213 = .ok (.istore 9, 2) := by decide +kernel
theorem dL_tries_215 : decode cL_tries 215 = .ok (.aload_n 0, 1) := by decide +kernel
theorem dL_tries_216 : decode cL_tries 216 = .ok (.iload_n 2, 1) := by decide +kernel
theorem dL_tries_217 : decode cL_tries 217 = .ok (.iload 7, 2) := by decide +kernel
theorem dL_tries_219 : decode cL_tries 219 = .ok (.iconst 3, 1) := by decide +kernel
theorem dL_tries_220 : decode cL_tries 220 = .ok (.invokevirtual 80, 3) := by decide +kernel
theorem dL_tries_223 : decode cL_tries 223 = .ok (.istore 10, 2) := by decide +kernel
theorem dL_tries_225 : decode cL_tries 225 = .ok (.aload_n 0, 1) := by decide +kernel
theorem dL_tries_226 : decode cL_tries 226 = .ok (.bipush 11, 2) := by decide +kernel
theorem dL_tries_228 : decode cL_tries 228 = .ok (.invokevirtual 24, 3) := by decide +kernel
theorem dL_tries_231 : decode cL_tries 231 = .ok (.istore 11, 2) := by decide +kernel
theorem dL_tries_233 : decode cL_tries 233 = .ok (.iload 6, 2) := by decide +kernel
theorem dL_tries_235 : decode cL_tries 235 = .ok (.ifCond .eq 59, 3) := by decide +kernel
theorem dL_tries_238 : decode cL_tries 238 = .ok (.iload 8, 2) := by decide +kernel
theorem dL_tries_240 : decode cL_tries 240 = .ok (.ifCond .lt 54, 3) := by decide +kernel
theorem dL_tries_243 : decode cL_tries 243 = .ok (.aload_n 0, 1) := by decide +kernel
theorem dL_tries_244 : decode cL_tries 244 = .ok (.iload_n 2, 1) := by decide +kernel
theorem dL_tries_245 : decode cL_tries 245 = .ok (.iload 7, 2) := by decide +kernel
theorem dL_tries_247 : decode cL_tries 247 = .ok (.invokevirtual 21, 3) := by decide +kernel
theorem dL_tries_250 : decode cL_tries 250 = .ok (.iload 8, 2) := by decide +kernel
theorem dL_tries_252 : decode cL_tries 252 = .ok (.if_icmp .ne 39, 3) := by decide +kernel
theorem dL_tries_255 : decode cL_tries 255 = .ok (.aload_n 0, 1) := by decide +kernel
theorem dL_tries_256 : decode cL_tries 256 = .ok (.bipush 11, 2) := by decide +kernel
theorem dL_tries_258 : decode cL_tries 258 = .ok (.invokevirtual 24, 3) := by decide +kernel
theorem dL_tries_261 : decode cL_tries 261 = .ok (.iload 11, 2) := by decide +kernel
theorem dL_tries_263 : decode cL_tries 263 = .ok (.iload 9, 2) := by decide +kernel
theorem dL_tries_265 : decode cL_tries 265 = .ok (.iadd, 1) := by decide +kernel
theorem dL_tries_266 : decode cL_tries 266 = .ok (.if_icmp .ne 25, 3) := by decide +kernel
theorem dL_tries_269 : decode cL_tries 269 = .ok (.aload_n 0, 1) := by decide +kernel
theorem dL_tries_270 : decode cL_tries 270 = .ok (.iload_n 2, 1) := by decide +kernel
theorem dL_tries_271 : decode cL_tries 271 = .ok (.iconst 2, 1) := by decide +kernel
theorem dL_tries_272 : decode cL_tries 272 = .ok (.invokevirtual 69, 3) := by decide +kernel
theorem dL_tries_275 : decode cL_tries 275 = .ok (.iload 10, 2) := by decide +kernel
theorem dL_tries_277 : decode cL_tries 277 = .ok (.if_icmp .ne 14, 3) := by decide +kernel
theorem dL_tries_280 : decode cL_tries 280 = .ok (.aload_n 0, 1) := by decide +kernel
theorem dL_tries_281 : decode cL_tries 281 = .ok (.invokevirtual 50, 3) := by decide +kernel
theorem dL_tries_284 : decode cL_tries 284 = .ok (.ifCond .lt 7, 3) := by decide +kernel
theorem dL_tries_287 : decode cL_tries 287 = .ok (.iconst 1, 1) := by decide +kernel
theorem dL_tries_288 : decode cL_tries 288 = .ok (.goto 4, 3) := by decide +kernel
theorem dL_tries_291 : decode cL_tries 291 = .ok (.iconst 0, 1) := by decide +kernel
theorem dL_tries_292 : decode cL_tries 292 = .ok (.istore 6, 2) := by decide +kernel
theorem dL_tries_294 : decode cL_tries 294 = .ok (.aload_n 0, 1) := by decide +kernel
theorem dL_tries_295 : decode cL_tries 295 = .ok (.iconst 1, 1) := by decide +kernel
theorem dL_tries_296 : decode cL_tries 296 = .ok (.invokevirtual 24, 3) := by decide +kernel
theorem dL_tries_299 : decode cL_tries 299 = .ok (.istore 12, 2) := by decide +kernel
theorem dL_tries_301 : decode cL_tries 301 = .ok (.iload 12, 2) := by decide +kernel
theorem dL_tries_303 : decode cL_tries 303 = .ok (.ifCond .ne 7, 3) := by decide +kernel
theorem dL_tries_306 : decode cL_tries 306 = .ok (.iconst 0, 1) := by decide +kernel
theorem dL_tries_307 : decode cL_tries 307 = .ok (.goto 12, 3) := by decide +kernel
theorem dL_tries_310 : decode cL_tries 310 = .ok (.iload_n 1, 1) := by decide +kernel
theorem dL_tries_311 : decode cL_tries 311 = .ok (.bipush 14, 2) := by decide +kernel
theorem dL_tries_313 : decode cL_tries 313 = .ok (.ishr, 1) := by decide +kernel
theorem dL_tries_314 : decode cL_tries 314 = .ok (.iload 12, 2) := by decide +kernel
theorem dL_tries_316 : decode cL_tries 316 = .ok (.invokestatic 9, 3) := by decide +kernel
theorem dL_tries_319 : decode cL_tries 319 = .ok (.istore 13, 2) := by decide +kernel
theorem dL_tries_321 : decode cL_tries 321 = .ok (.iload 12, 2) := by decide +kernel
theorem dL_tries_323 : decode cL_tries 323 = .ok (.ifCond .ne 8, 3) := by decide +kernel
theorem dL_tries_326 : decode cL_tries 326 = .ok (.bipush (-5), 2) := by decide +kernel
theorem dL_tries_328 : decode cL_tries 328 = .ok (.goto 9, 3) := by decide +kernel
theorem dL_tries_331 : decode cL_tries 331 = .ok (.aload_n 0, 1) := by decide +kernel
theorem dL_tries_332 : decode cL_tries 332 = .ok (.iload 13, 2) := by decide +kernel
theorem dL_tries_334 : decode cL_tries 334 = .ok (.invokevirtual 59, 3) := by decide +kernel
theorem dL_tries_337 : decode cL_tries 337 = .ok (.istore 14, 2) := by decide +kernel
theorem dL_tries_339 : decode cL_tries 339 = .ok (.iload 14, 2) := by decide +kernel
theorem dL_tries_341 : decode cL_tries 341 = .ok (.aload_n 0, 1) := by decide +kernel
theorem dL_tries_342 : decode cL_tries 342 = .ok (.iconst 0, 1) := by decide +kernel
theorem dL_tries_343 : decode cL_tries 343 = .ok (.invokevirtual 24, 3) := by decide +kernel
theorem dL_tries_346 : decode cL_tries 346 = .ok (.isub, 1) := by decide +kernel
theorem dL_tries_347 : decode cL_tries 347 = .ok (.istore 15, 2) := by decide +kernel
theorem dL_tries_349 : decode cL_tries 349 = .ok (.iload 6, 2) := by decide +kernel
theorem dL_tries_351 : decode cL_tries 351 = .ok (.ifCond .eq 87, 3) := by decide +kernel
theorem dL_tries_354 : decode cL_tries 354 = .ok (.iload 14, 2) := by decide +kernel
theorem dL_tries_356 : decode cL_tries 356 = .ok (.bipush (-5), 2) := by decide +kernel
theorem dL_tries_358 : decode cL_tries 358 = .ok (.if_icmp .eq 80, 3) := by decide +kernel
theorem dL_tries_361 : decode cL_tries 361 = .ok (.iload 15, 2) := by decide +kernel
theorem dL_tries_363 : decode cL_tries 363 = .ok (.ifCond .le 75, 3) := by decide +kernel
theorem dL_tries_366 : decode cL_tries 366 = .ok (.iload 15, 2) := by decide +kernel
theorem dL_tries_368 : decode cL_tries 368 = .ok (.bipush 99, 2) := by decide +kernel
theorem dL_tries_370 : decode cL_tries 370 = .ok (.if_icmp .ge 68, 3) := by decide +kernel
theorem dL_tries_373 : decode cL_tries 373 = .ok (.iload 15, 2) := by decide +kernel
theorem dL_tries_375 : decode cL_tries 375 = .ok (.iconst 1, 1) := by decide +kernel
theorem dL_tries_376 : decode cL_tries 376 = .ok (.if_icmp .eq 30, 3) := by decide +kernel
theorem dL_tries_379 : decode cL_tries 379 = .ok (.aload_n 0, 1) := by decide +kernel
theorem dL_tries_380 : decode cL_tries 380 = .ok (.iload 15, 2) := by decide +kernel
theorem dL_tries_382 : decode cL_tries 382 = .ok (.iconst 1, 1) := by decide +kernel
theorem dL_tries_383 : decode cL_tries 383 = .ok (.isub, 1) := by decide +kernel
theorem dL_tries_384 : decode cL_tries 384 = .ok (.invokevirtual 34, 3) := by decide +kernel
theorem dL_tries_387 : decode cL_tries 387 = .ok (.ifCond .lt 48, 3) := by decide +kernel
theorem dL_tries_390 : decode cL_tries 390 = .ok (.aload_n 0, 1) := by decide +kernel
theorem dL_tries_391 : decode cL_tries 391 = .ok (.iload 13, 2) := by decide +kernel
theorem dL_tries_393 : decode cL_tries 393 = .ok (.invokevirtual 56, 3) := by decide +kernel
theorem dL_tries_396 : decode cL_tries 396 = .ok (.ifCond .eq 39, 3) := by decide +kernel
theorem dL_tries_399 : decode cL_tries 399 = .ok (.aload_n 0, 1) := by decide +kernel
theorem dL_tries_400 : decode cL_tries 400 = .ok (.invokevirtual 50, 3) := by decide +kernel
theorem dL_tries_403 : decode cL_tries 403 = .ok (.ifCond .lt 32, 3) := by decide +kernel
theorem dL_tries_406 : decode cL_tries 406 = .ok (.aload_n 0, 1) := by decide +kernel
theorem dL_tries_407 : decode cL_tries 407 = .ok (.iload 15, 2) := by decide +kernel
theorem dL_tries_409 : decode cL_tries 409 = .ok (.invokevirtual 34, 3) := by decide +kernel
theorem dL_tries_412 : decode cL_tries 412 = .ok (.ifCond .lt 23, 3) := by decide +kernel
theorem dL_tries_415 : decode cL_tries 415 = .ok (.aload_n 0, 1) := by decide +kernel
theorem dL_tries_416 : decode cL_tries 416 = .ok (.iload 13, 2) := by decide +kernel
theorem dL_tries_418 : decode cL_tries 418 = .ok (.invokevirtual 56, 3) := by decide +kernel
theorem dL_tries_421 : decode cL_tries 421 = .ok (.ifCond .ne 14, 3) := by decide +kernel
theorem dL_tries_424 : decode cL_tries 424 = .ok (.aload_n 0, 1) := by decide +kernel
theorem dL_tries_425 : decode cL_tries 425 = .ok (.invokevirtual 50, 3) := by decide +kernel
theorem dL_tries_428 : decode cL_tries 428 = .ok (.ifCond .lt 7, 3) := by decide +kernel
theorem dL_tries_431 : decode cL_tries 431 = .ok (.iconst 1, 1) := by decide +kernel
theorem dL_tries_432 : decode cL_tries 432 = .ok (.goto 4, 3) := by decide +kernel
theorem dL_tries_435 : decode cL_tries 435 = .ok (.iconst 0, 1) := by decide +kernel
theorem dL_tries_436 : decode cL_tries 436 = .ok (.istore 6, 2) := by decide +kernel
theorem dL_tries_438 : decode cL_tries 438 = .ok (.iload 6, 2) := by decide +kernel
theorem dL_tries_440 : decode cL_tries 440 = .ok (.ireturn, 1) := by decide +kernel
theorem dL_law_0 : decode cL_law 0 = .ok (.new 16, 3) := by decide +kernel
theorem dL_law_3 : decode cL_law 3 = .ok (.dup, 1) := by decide +kernel
theorem dL_law_4 : decode cL_law 4 = .ok (.invokespecial 84, 3) := by decide +kernel
theorem dL_law_7 : decode cL_law 7 = .ok (.astore_n 1, 1) := by decide +kernel
theorem dL_law_8 : decode cL_law 8 = .ok (.aload_n 1, 1) := by decide +kernel
theorem dL_law_9 : decode cL_law 9 = .ok (.invokestatic 85, 3) := by decide +kernel
theorem dL_law_12 : decode cL_law 12 = .ok (.ifCond .eq 25, 3) := by decide +kernel
theorem dL_law_15 : decode cL_law 15 = .ok (.aload_n 1, 1) := by decide +kernel
theorem dL_law_16 : decode cL_law 16 = .ok (.bipush 20, 2) := by decide +kernel
theorem dL_law_18 : decode cL_law 18 = .ok (.invokevirtual 24, 3) := by decide +kernel
theorem dL_law_21 : decode cL_law 21 = .ok (.ifCond .ne 16, 3) := by decide +kernel
theorem dL_law_24 : decode cL_law 24 = .ok (.aload_n 1, 1) := by decide +kernel
theorem dL_law_25 : decode cL_law 25 = .ok (.invokevirtual 50, 3) := by decide +kernel
theorem dL_law_28 : decode cL_law 28 = .ok (.bipush (-5), 2) := by decide +kernel
theorem dL_law_30 : decode cL_law 30 = .ok (.if_icmp .ne 7, 3) := by decide +kernel
theorem dL_law_33 : decode cL_law 33 = .ok (.iconst 1, 1) := by decide +kernel
theorem dL_law_34 : decode cL_law 34 = .ok (.goto 4, 3) := by decide +kernel
theorem dL_law_37 : decode cL_law 37 = .ok (.iconst 0, 1) := by decide +kernel
theorem dL_law_38 : decode cL_law 38 = .ok (.istore_n 2, 1) := by decide +kernel
theorem dL_law_39 : decode cL_law 39 = .ok (.aload_n 0, 1) := by decide +kernel
theorem dL_law_40 : decode cL_law 40 = .ok (.arraylength, 1) := by decide +kernel
theorem dL_law_41 : decode cL_law 41 = .ok (.iconst 3, 1) := by decide +kernel
theorem dL_law_42 : decode cL_law 42 = .ok (.idiv, 1) := by decide +kernel
theorem dL_law_43 : decode cL_law 43 = .ok (.bipush 30, 2) := by decide +kernel
theorem dL_law_45 : decode cL_law 45 = .ok (.if_icmp .le 8, 3) := by decide +kernel
theorem dL_law_48 : decode cL_law 48 = .ok (.bipush 30, 2) := by decide +kernel
theorem dL_law_50 : decode cL_law 50 = .ok (.goto 7, 3) := by decide +kernel
theorem dL_law_53 : decode cL_law 53 = .ok (.aload_n 0, 1) := by decide +kernel
theorem dL_law_54 : decode cL_law 54 = .ok (.arraylength, 1) := by decide +kernel
theorem dL_law_55 : decode cL_law 55 = .ok (.iconst 3, 1) := by decide +kernel
theorem dL_law_56 : decode cL_law 56 = .ok (.idiv, 1) := by decide +kernel
theorem dL_law_57 : decode cL_law 57 = .ok (.istore_n 3, 1) := by decide +kernel
theorem dL_law_58 : decode cL_law 58 = .ok (.iconst 0, 1) := by decide +kernel
theorem dL_law_59 : decode cL_law 59 = .ok (.istore 4, 2) := by decide +kernel
theorem dL_law_61 : decode cL_law 61 = .ok (.iload 4, 2) := by decide +kernel
theorem dL_law_63 : decode cL_law 63 = .ok (.iload_n 3, 1) := by decide +kernel
theorem dL_law_64 : decode cL_law 64 = .ok (.if_icmp .ge 153, 3) := by decide +kernel
theorem dL_law_67 : decode cL_law 67 = .ok (.iload_n 2, 1) := by decide +kernel
theorem dL_law_68 : decode cL_law 68 = .ok (.ifCond .eq 149, 3) := by decide +kernel
theorem dL_law_71 : decode cL_law 71 = .ok (.aload_n 0, 1) := by decide +kernel
theorem dL_law_72 : decode cL_law 72 = .ok (.iconst 3, 1) := by decide +kernel
theorem dL_law_73 : decode cL_law 73 = .ok (.iload 4, 2) := by decide +kernel
theorem dL_law_75 : decode cL_law 75 = .ok (.imul, 1) := by decide +kernel
theorem dL_law_76 : decode cL_law 76 = .ok (.invokestatic 89, 3) := by decide +kernel
theorem dL_law_79 : decode cL_law 79 = .ok (.bipush 17, 2) := by decide +kernel
theorem dL_law_81 : decode cL_law 81 = .ok (.invokestatic 9, 3) := by decide +kernel
theorem dL_law_84 : decode cL_law 84 = .ok (.istore 5, 2) := by decide +kernel
theorem dL_law_86 : decode cL_law 86 = .ok (.aload_n 1, 1) := by decide +kernel
theorem dL_law_87 : decode cL_law 87 = .ok (.bipush 20, 2) := by decide +kernel
theorem dL_law_89 : decode cL_law 89 = .ok (.invokevirtual 24, 3) := by decide +kernel
theorem dL_law_92 : decode cL_law 92 = .ok (.istore 6, 2) := by decide +kernel
theorem dL_law_94 : decode cL_law 94 = .ok (.aload_n 1, 1) := by decide +kernel
theorem dL_law_95 : decode cL_law 95 = .ok (.iload 5, 2) := by decide +kernel
theorem dL_law_97 : decode cL_law 97 = .ok (.aload_n 0, 1) := by decide +kernel
theorem dL_law_98 : decode cL_law 98 = .ok (.iconst 3, 1) := by decide +kernel
theorem dL_law_99 : decode cL_law 99 = .ok (.iload 4, 2) := by decide +kernel
theorem dL_law_101 : decode cL_law 101 = .ok (.imul, 1) := by decide +kernel
theorem dL_law_102 : decode cL_law 102 = .ok (.iconst 1, 1) := by decide +kernel
theorem dL_law_103 : decode cL_law 103 = .ok (.iadd, 1) := by decide +kernel
theorem dL_law_104 : decode cL_law 104 = .ok (.invokestatic 89, 3) := by decide +kernel
theorem dL_law_107 : decode cL_law 107 = .ok (.aload_n 0, 1) := by decide +kernel
theorem dL_law_108 : decode cL_law 108 = .ok (.iconst 3, 1) := by decide +kernel
theorem dL_law_109 : decode cL_law 109 = .ok (.iload 4, 2) := by decide +kernel
theorem dL_law_111 : decode cL_law 111 = .ok (.imul, 1) := by decide +kernel
theorem dL_law_112 : decode cL_law 112 = .ok (.iconst 2, 1) := by decide +kernel
theorem dL_law_113 : decode cL_law 113 = .ok (.iadd, 1) := by decide +kernel
theorem dL_law_114 : decode cL_law 114 = .ok (.invokestatic 89, 3) := by decide +kernel
theorem dL_law_117 : decode cL_law 117 = .ok (.invokestatic 93, 3) := by decide +kernel
theorem dL_law_120 : decode cL_law 120 = .ok (.istore 7, 2) := by decide +kernel
theorem dL_law_122 : decode cL_law 122 = .ok (.iload 7, 2) := by decide +kernel
theorem dL_law_124 : decode cL_law 124 = .ok (.ifCond .ge 8, 3) := by decide +kernel
theorem dL_law_127 : decode cL_law 127 = .ok (.iload 6, 2) := by decide +kernel
theorem dL_law_129 : decode cL_law 129 = .ok (.goto 31, 3) := by decide +kernel
theorem dL_law_132 : decode cL_law 132 = .ok (.iload 5, 2) := by decide +kernel
theorem dL_law_134 : decode cL_law 134 = .ok (.bipush 16, 2) := by decide +kernel
theorem dL_law_136 : decode cL_law 136 = .ok (.if_icmp .ne 10, 3) := by decide +kernel
theorem dL_law_139 : decode cL_law 139 = .ok (.iload 6, 2) := by decide +kernel
theorem dL_law_141 : decode cL_law 141 = .ok (.iconst 1, 1) := by decide +kernel
theorem dL_law_142 : decode cL_law 142 = .ok (.isub, 1) := by decide +kernel
theorem dL_law_143 : decode cL_law 143 = .ok (.goto 17, 3) := by decide +kernel
theorem dL_law_146 : decode cL_law 146 = .ok (.iload 6, 2) := by decide +kernel
theorem dL_law_148 : decode cL_law 148 = .ok (.iconst 4, 1) := by decide +kernel
theorem dL_law_149 : decode cL_law 149 = .ok (.if_icmp .ne 7, 3) := by decide +kernel
theorem dL_law_152 : decode cL_law 152 = .ok (.iconst 4, 1) := by decide +kernel
theorem dL_law_153 : decode cL_law 153 = .ok (.goto 7, 3) := by decide +kernel
theorem dL_law_156 : decode cL_law 156 = .ok (.iload 6, 2) := by decide +kernel
theorem dL_law_158 : decode cL_law 158 = .ok (.iconst 1, 1) := by decide +kernel
theorem dL_law_159 : decode cL_law 159 = .ok (.iadd, 1) := by decide +kernel
theorem dL_law_160 : decode cL_law 160 = .ok (.istore 8, 2) := by decide +kernel
theorem dL_law_162 : decode cL_law 162 = .ok (.aload_n 1, 1) := by decide +kernel
theorem dL_law_163 : decode cL_law 163 = .ok (.bipush 20, 2) := by decide +kernel
theorem dL_law_165 : decode cL_law 165 = .ok (.invokevirtual 24, 3) := by decide +kernel
theorem dL_law_168 : decode cL_law 168 = .ok (.iload 8, 2) := by decide +kernel
theorem dL_law_170 : decode cL_law 170 = .ok (.if_icmp .ne 39, 3) := by decide +kernel
theorem dL_law_173 : decode cL_law 173 = .ok (.aload_n 1, 1) := by decide +kernel
theorem dL_law_174 : decode cL_law 174 = .ok (.invokestatic 85, 3) := by decide +kernel
theorem dL_law_177 : decode cL_law 177 = .ok (.ifCond .eq 32, 3) := by decide +kernel
theorem dL_law_180 : decode cL_law 180 = .ok (.iload 4, 2) := by decide +kernel
theorem dL_law_182 : decode cL_law 182 = .ok (.iconst 4, 1) := by decide +kernel
theorem dL_law_183 : decode cL_law 183 = .ok (.irem, 1) := by decide +kernel
theorem dL_law_184 : decode cL_law 184 = .ok (.iconst 3, 1) := by decide +kernel
theorem dL_law_185 : decode cL_law 185 = .ok (.if_icmp .ne 20, 3) := by decide +kernel
theorem dL_law_188 : decode cL_law 188 = .ok (.aload_n 1, 1) := by decide +kernel
theorem dL_law_189 : decode cL_law 189 = .ok (.aload_n 0, 1) := by decide +kernel
theorem dL_law_190 : decode cL_law 190 = .ok (.iconst 3, 1) := by decide +kernel
theorem dL_law_191 : decode cL_law 191 = .ok (.iload 4, 2) := by decide +kernel
theorem dL_law_193 : decode cL_law 193 = .ok (.imul, 1) := by decide +kernel
theorem dL_law_194 : decode cL_law 194 = .ok (.iconst 2, 1) := by decide +kernel
theorem dL_law_195 : decode cL_law 195 = .ok (.iadd, 1) := by decide +kernel
theorem dL_law_196 : decode cL_law 196 = .ok (.invokestatic 89, 3) := by decide +kernel
theorem dL_law_199 : decode cL_law 199 = .ok (.invokestatic 97, 3) := by decide +kernel
theorem dL_law_202 : decode cL_law 202 = .ok (.ifCond .eq 7, 3) := by decide +kernel
theorem dL_law_205 : decode cL_law 205 = .ok (.iconst 1, 1) := by decide +kernel
theorem dL_law_206 : decode cL_law 206 = .ok (.goto 4, 3) := by decide +kernel
theorem dL_law_209 : decode cL_law 209 = .ok (.iconst 0, 1) := by decide +kernel
theorem dL_law_210 : decode cL_law 210 = .ok (.istore_n 2, 1) := by decide +kernel
theorem dL_law_211 : decode cL_law 211 = .ok (.iinc 4 1, 3) := by decide +kernel
theorem dL_law_214 : decode cL_law 214 = .ok (.goto (-153), 3) := by decide +kernel
theorem dL_law_217 : decode cL_law 217 = .ok (.iload_n 2, 1) := by decide +kernel
theorem dL_law_218 : decode cL_law 218 = .ok (.ireturn, 1) := by decide +kernel
def v_L_low (p0 : Int32) (p1 : Int32) : Int32 := (p0 &&& (2147483647 : Int32)) - (p0 &&& (2147483647 : Int32)) / p1 * p1
theorem q_L_low : yL_low.cls ≠ "java/lang/invoke/MethodHandle" ∧ yL_low.cls ≠ "java/lang/invoke/VarHandle" ∧ (parseMethodDescriptor yL_low.desc).map (fun d => d.parameters.length) = some 2 := ⟨by decide, by decide, by decide +kernel⟩
set_option maxHeartbeats 4000000 in
set_option maxRecDepth 100000 in
theorem c_L_low (l : Launch) (G : kG) (P : Heap → Prop) (A : Nat → Prop) (p0 : Int32) (p1 : Int32) (hn0 : ¬ p1 = 0) : Met l yL_low (Cond.code yL_low cL_low 2 (some .int) :: BIG) (rmK 0) (pcG G P [.int p0, .int p1]) (qcI G A P (v_L_low p0 p1)) 0 0 A := by
  refine m_start (by decide) (Nat.le_of_ble_eq_true rfl) ?_
  intro p e s m args below meth c S hr hlk hnm hP hK ls hl
  have hx := S.1
  have hb := S.2.1
  have hown := S.2.2.2.1
  have hS : va_S A s.heap s.heap [] := va_S.rf
  have hl : lv_has ls 2 [(0, .int p0), (1, .int p1)] := hl
  refine lv_iload_n hx hb dL_low_0 rfl (lv_at hl 0 rfl) ?_
  refine lv_ldc hx hb hown (S.2.2.2.2 _ k_279) dL_low_1 ?_
  refine lv_iand hx hb dL_low_3 ?_
  refine lv_iload_n hx hb dL_low_4 rfl (lv_at hl 1 rfl) ?_
  refine lv_irem hx hb dL_low_5 hn0 ?_
  exact e_int S hr hlk rfl hK hS hP (show v_L_low p0 p1 = (p0 &&& (2147483647 : Int32)) - (p0 &&& (2147483647 : Int32)) / p1 * p1 from rfl).symm dL_low_6

def v_L_isBill_t402_1 (z : CS) (p1 : Int32) (x2 : Int32) (x5 : Int32) (x9 : Int32) : Int32 := if x9 = (-5 : Int32) then (1 : Int32) else if x9 < x5 then (0 : Int32) else if x2 = 0 then (1 : Int32) else (0 : Int32)
def v_L_isBill_t372_0 (z : CS) (p1 : Int32) (x2 : Int32) (x5 : Int32) (x8 : Int32) (x9 : Int32) : Int32 := (0 : Int32)
def v_L_isBill_t372_1 (z : CS) (p1 : Int32) (x2 : Int32) (x5 : Int32) (x8 : Int32) (x9 : Int32) : Int32 := if x8 = 0 then (if x9 = x5 then (v_L_isBill_t402_1 z p1 x2 x5 x9) else (0 : Int32)) else if x9 = x5 then (0 : Int32) else v_L_isBill_t402_1 z p1 x2 x5 x9
def v_L_isBill_t273_0_0 (z : CS) (p1 : Int32) (x2 : Int32) (x5 : Int32) : Int32 := v_L_isBill_t372_0 z p1 x2 x5 (v_X5_reason z p1) (v_X5_nextReminder z p1)
def v_L_isBill_t273_0_1 (z : CS) (p1 : Int32) (x2 : Int32) (x5 : Int32) : Int32 := v_L_isBill_t372_0 z p1 x2 x5 (v_X5_reason z p1) (v_X5_nextReminder z p1)
def v_L_isBill_t273_1_0 (z : CS) (p1 : Int32) (x2 : Int32) (x5 : Int32) : Int32 := if x2 = (1 : Int32) then (if v_X5_reason z p1 = (1 : Int32) then (v_L_isBill_t372_1 z p1 x2 x5 (v_X5_reason z p1) (v_X5_nextReminder z p1)) else v_L_isBill_t372_0 z p1 x2 x5 (v_X5_reason z p1) (v_X5_nextReminder z p1)) else if x2 = (2 : Int32) then (if v_X5_reason z p1 = (2 : Int32) then (v_L_isBill_t372_1 z p1 x2 x5 (v_X5_reason z p1) (v_X5_nextReminder z p1)) else v_L_isBill_t372_0 z p1 x2 x5 (v_X5_reason z p1) (v_X5_nextReminder z p1)) else if v_X5_reason z p1 = (3 : Int32) then (v_L_isBill_t372_1 z p1 x2 x5 (v_X5_reason z p1) (v_X5_nextReminder z p1)) else v_L_isBill_t372_0 z p1 x2 x5 (v_X5_reason z p1) (v_X5_nextReminder z p1)
def v_L_isBill_t273_1_1 (z : CS) (p1 : Int32) (x2 : Int32) (x5 : Int32) : Int32 := if x2 = (1 : Int32) then (if v_X5_reason z p1 = (1 : Int32) then (v_L_isBill_t372_1 z p1 x2 x5 (v_X5_reason z p1) (v_X5_nextReminder z p1)) else v_L_isBill_t372_0 z p1 x2 x5 (v_X5_reason z p1) (v_X5_nextReminder z p1)) else if x2 = (2 : Int32) then (if v_X5_reason z p1 = (2 : Int32) then (v_L_isBill_t372_1 z p1 x2 x5 (v_X5_reason z p1) (v_X5_nextReminder z p1)) else v_L_isBill_t372_0 z p1 x2 x5 (v_X5_reason z p1) (v_X5_nextReminder z p1)) else if v_X5_billOf z p1 (11 : Int32) = (3 : Int32) then (if v_X5_reason z p1 = (4 : Int32) then (v_L_isBill_t372_1 z p1 x2 x5 (v_X5_reason z p1) (v_X5_nextReminder z p1)) else v_L_isBill_t372_0 z p1 x2 x5 (v_X5_reason z p1) (v_X5_nextReminder z p1)) else if v_X5_reason z p1 = (5 : Int32) then (v_L_isBill_t372_1 z p1 x2 x5 (v_X5_reason z p1) (v_X5_nextReminder z p1)) else if v_X5_reason z p1 = 0 then (v_L_isBill_t372_1 z p1 x2 x5 (v_X5_reason z p1) (v_X5_nextReminder z p1)) else v_L_isBill_t372_0 z p1 x2 x5 (v_X5_reason z p1) (v_X5_nextReminder z p1)
def v_L_isBill_t183_0_0 (z : CS) (p1 : Int32) (x2 : Int32) (x5 : Int32) : Int32 := v_L_isBill_t273_0_0 z p1 x2 x5
def v_L_isBill_t183_0_1 (z : CS) (p1 : Int32) (x2 : Int32) (x5 : Int32) : Int32 := v_L_isBill_t273_0_1 z p1 x2 x5
def v_L_isBill_t183_1_0 (z : CS) (p1 : Int32) (x2 : Int32) (x5 : Int32) : Int32 := if v_X5_billOf z p1 (13 : Int32) = (0 : Int32) then (if x5 < v_X5_billOf z p1 (4 : Int32) then (v_L_isBill_t273_0_0 z p1 x2 x5) else if x5 < v_X5_billOf z p1 (12 : Int32) then (v_L_isBill_t273_0_0 z p1 x2 x5) else if v_X5_billOf z p1 (12 : Int32) = (-5 : Int32) then (if v_X5_billOf z p1 (7 : Int32) = 0 then (v_L_isBill_t273_1_0 z p1 x2 x5) else v_L_isBill_t273_0_0 z p1 x2 x5) else if v_X5_billOf z p1 (7 : Int32) = 0 then (v_L_isBill_t273_0_0 z p1 x2 x5) else v_L_isBill_t273_1_0 z p1 x2 x5) else v_L_isBill_t273_0_0 z p1 x2 x5
def v_L_isBill_t183_1_1 (z : CS) (p1 : Int32) (x2 : Int32) (x5 : Int32) : Int32 := if v_X5_billOf z p1 (13 : Int32) = (1 : Int32) then (if x5 < v_X5_billOf z p1 (4 : Int32) then (v_L_isBill_t273_0_1 z p1 x2 x5) else if x5 < v_X5_billOf z p1 (12 : Int32) then (v_L_isBill_t273_0_1 z p1 x2 x5) else if v_X5_billOf z p1 (12 : Int32) = (-5 : Int32) then (if v_X5_billOf z p1 (7 : Int32) = 0 then (v_L_isBill_t273_1_1 z p1 x2 x5) else v_L_isBill_t273_0_1 z p1 x2 x5) else if v_X5_billOf z p1 (7 : Int32) = 0 then (v_L_isBill_t273_0_1 z p1 x2 x5) else v_L_isBill_t273_1_1 z p1 x2 x5) else v_L_isBill_t273_0_1 z p1 x2 x5
def v_L_isBill_t139_1_0 (z : CS) (p1 : Int32) (x2 : Int32) (x5 : Int32) : Int32 := if v_X5_billOf z p1 (11 : Int32) < 0 then (v_L_isBill_t183_0_0 z p1 x2 x5) else if (3 : Int32) < v_X5_billOf z p1 (11 : Int32) then (v_L_isBill_t183_0_0 z p1 x2 x5) else if x2 = (2 : Int32) then (if v_X5_billOf z p1 (11 : Int32) = (3 : Int32) then (v_L_isBill_t183_1_0 z p1 x2 x5) else v_L_isBill_t183_0_0 z p1 x2 x5) else v_L_isBill_t183_1_0 z p1 x2 x5
def v_L_isBill_t139_1_1 (z : CS) (p1 : Int32) (x2 : Int32) (x5 : Int32) : Int32 := if v_X5_billOf z p1 (11 : Int32) < 0 then (v_L_isBill_t183_0_1 z p1 x2 x5) else if (3 : Int32) < v_X5_billOf z p1 (11 : Int32) then (v_L_isBill_t183_0_1 z p1 x2 x5) else if x2 = (2 : Int32) then (if v_X5_billOf z p1 (11 : Int32) = (3 : Int32) then (v_L_isBill_t183_1_1 z p1 x2 x5) else v_L_isBill_t183_0_1 z p1 x2 x5) else v_L_isBill_t183_1_1 z p1 x2 x5
def v_L_isBill_t108_0_0 (z : CS) (p1 : Int32) (x2 : Int32) (x3 : Int32) (x5 : Int32) : Int32 := v_L_isBill_t183_0_0 z p1 x2 x5
def v_L_isBill_t108_0_1 (z : CS) (p1 : Int32) (x2 : Int32) (x3 : Int32) (x5 : Int32) : Int32 := v_L_isBill_t183_0_1 z p1 x2 x5
def v_L_isBill_t108_1_0 (z : CS) (p1 : Int32) (x2 : Int32) (x3 : Int32) (x5 : Int32) : Int32 := if x3 < 0 then (v_L_isBill_t183_0_0 z p1 x2 x5) else if x2 = (1 : Int32) then (if x3 = 0 then (v_L_isBill_t139_1_0 z p1 x2 x5) else v_L_isBill_t183_0_0 z p1 x2 x5) else if x3 = 0 then (v_L_isBill_t183_0_0 z p1 x2 x5) else v_L_isBill_t139_1_0 z p1 x2 x5
def v_L_isBill_t108_1_1 (z : CS) (p1 : Int32) (x2 : Int32) (x3 : Int32) (x5 : Int32) : Int32 := if x3 < 0 then (v_L_isBill_t183_0_1 z p1 x2 x5) else if x2 = (1 : Int32) then (if x3 = 0 then (v_L_isBill_t139_1_1 z p1 x2 x5) else v_L_isBill_t183_0_1 z p1 x2 x5) else if x3 = 0 then (v_L_isBill_t183_0_1 z p1 x2 x5) else v_L_isBill_t139_1_1 z p1 x2 x5
def v_L_isBill_t53_0 (z : CS) (p1 : Int32) (x2 : Int32) (x3 : Int32) (x4 : Int32) (x5 : Int32) : Int32 := if x4 = (v_X5_billOf z p1 (1 : Int32)) + (v_X5_billOf z p1 (2 : Int32)) then (if x3 = ((x4 + (v_X5_billOf z p1 (9 : Int32))) - (v_X5_billOf z p1 (7 : Int32))) - (v_X5_billOf z p1 (8 : Int32)) then (v_L_isBill_t108_1_0 z p1 x2 x3 x5) else v_L_isBill_t108_0_0 z p1 x2 x3 x5) else v_L_isBill_t108_0_0 z p1 x2 x3 x5
def v_L_isBill_t53_1 (z : CS) (p1 : Int32) (x2 : Int32) (x3 : Int32) (x4 : Int32) (x5 : Int32) : Int32 := if x4 = (v_X5_billOf z p1 (1 : Int32)) + (v_X5_billOf z p1 (2 : Int32)) then (if x3 = ((x4 + (v_X5_billOf z p1 (9 : Int32))) - (v_X5_billOf z p1 (7 : Int32))) - (v_X5_billOf z p1 (8 : Int32)) then (v_L_isBill_t108_1_1 z p1 x2 x3 x5) else v_L_isBill_t108_0_1 z p1 x2 x3 x5) else v_L_isBill_t108_0_1 z p1 x2 x3 x5
def v_L_isBill (z : CS) (p1 : Int32) : Int32 := if v_X5_billOf z p1 (6 : Int32) = 0 then (if v_X5_count z (0 : Int32) ≤ v_X5_billOf z p1 (5 : Int32) then (v_L_isBill_t53_0 z p1 (v_X5_billOf z p1 (6 : Int32)) (v_X5_billOf z p1 (10 : Int32)) (v_X5_billOf z p1 (3 : Int32)) (v_X5_count z (0 : Int32))) else v_L_isBill_t53_1 z p1 (v_X5_billOf z p1 (6 : Int32)) (v_X5_billOf z p1 (10 : Int32)) (v_X5_billOf z p1 (3 : Int32)) (v_X5_count z (0 : Int32))) else v_L_isBill_t53_0 z p1 (v_X5_billOf z p1 (6 : Int32)) (v_X5_billOf z p1 (10 : Int32)) (v_X5_billOf z p1 (3 : Int32)) (v_X5_count z (0 : Int32))
theorem q_L_isBill : yL_isBill.cls ≠ "java/lang/invoke/MethodHandle" ∧ yL_isBill.cls ≠ "java/lang/invoke/VarHandle" ∧ (parseMethodDescriptor yL_isBill.desc).map (fun d => d.parameters.length) = some 2 := ⟨by decide, by decide, by decide +kernel⟩
set_option maxHeartbeats 4000000 in
set_option maxRecDepth 100000 in
theorem c_L_isBill (l : Launch) (G : kG) (a : Nat → Nat) (hI : gI 334 a) (z : CS) (p1 : Int32) (hR : RI z.1) (hJ : RJ z.1) : Met l yL_isBill (Cond.code yL_isBill cL_isBill 10 (some .boolean) :: BIG) (rmK 4) (pcG G (cP G a z) [.ref (a 329), .int p1]) (qcI G (gA 334 a) (cP G a z) (v_L_isBill z p1)) 0 0 (gA 334 a) := by
  refine m_start (by decide) (Nat.le_of_ble_eq_true rfl) ?_
  intro p e s m args below meth c S hr hlk hnm hP hK ls hl
  have hx := S.1
  have hb := S.2.1
  have hown := S.2.2.2.1
  have hS : va_S (gA 334 a) s.heap s.heap [] := va_S.rf
  have hl : lv_has ls 10 [(0, .ref (a 329)), (1, .int p1)] := hl
  have T_402_1 : ∀ (x2 : Int32) (x5 : Int32) (x9 : Int32) (H : Heap) (locs : List Loc), cP G a z H → va_S (gA 334 a) s.heap H locs → ∀ ls : Array Slot, lv_has ls 10 [(2, .int x2), (5, .int x5), (9, .int x9)] → W p l e (rmK 4) s m args below meth c H locs 0 0 (MQ below (qcI G (gA 334 a) (cP G a z) (v_L_isBill_t402_1 z p1 x2 x5 x9)) args s 0 0 (gA 334 a)) (F0 m 402 ls []) := by
    intro x2 x5 x9 H locs hP hS ls hl
    refine lv_iload hx hb dL_isBill_402 (lv_at hl 2 rfl) ?_
    refine lv_bipush (v := -5) hx hb dL_isBill_404 (by decide) ?_
    refine lv_icmp_eq (tgt := 420) hx hb dL_isBill_406 (by decide) (fun c51 => ?_) (fun c51 => ?_)
    · skip
      refine lv_iconst (v := 1) hx hb dL_isBill_420 (by decide) ?_
      refine lv_goto (tgt := 425) hx hb dL_isBill_421 (by decide) ?_
      exact e_int S hr hlk rfl hK hS hP (show v_L_isBill_t402_1 z p1 x2 x5 x9 = (1 : Int32) from (if_pos c51).trans rfl).symm dL_isBill_425
    · skip
      refine lv_iload hx hb dL_isBill_409 (lv_at hl 2 rfl) ?_
      refine lv_iload hx hb dL_isBill_411 (lv_at hl 1 rfl) ?_
      refine lv_icmp_lt (tgt := 424) hx hb dL_isBill_413 (by decide) (fun c52 => ?_) (fun c52 => ?_)
      · skip
        refine lv_iconst (v := 0) hx hb dL_isBill_424 (by decide) ?_
        exact e_int S hr hlk rfl hK hS hP (show v_L_isBill_t402_1 z p1 x2 x5 x9 = (0 : Int32) from (if_neg c51).trans ((if_pos c52).trans rfl)).symm dL_isBill_425
      · skip
        refine lv_iload_n hx hb dL_isBill_416 rfl (lv_at hl 0 rfl) ?_
        refine lv_if_ne (tgt := 424) hx hb dL_isBill_417 (by decide) (fun c53 => ?_) (fun c53 => ?_)
        · skip
          refine lv_iconst (v := 0) hx hb dL_isBill_424 (by decide) ?_
          exact e_int S hr hlk rfl hK hS hP (show v_L_isBill_t402_1 z p1 x2 x5 x9 = (0 : Int32) from (if_neg c51).trans ((if_neg c52).trans ((if_neg c53).trans rfl))).symm dL_isBill_425
        · skip
          refine lv_iconst (v := 1) hx hb dL_isBill_420 (by decide) ?_
          refine lv_goto (tgt := 425) hx hb dL_isBill_421 (by decide) ?_
          exact e_int S hr hlk rfl hK hS hP (show v_L_isBill_t402_1 z p1 x2 x5 x9 = (1 : Int32) from (if_neg c51).trans ((if_neg c52).trans ((if_pos c53).trans rfl))).symm dL_isBill_425
  have T_372_0 : ∀ (x2 : Int32) (x5 : Int32) (x8 : Int32) (x9 : Int32) (H : Heap) (locs : List Loc), cP G a z H → va_S (gA 334 a) s.heap H locs → ∀ ls : Array Slot, lv_has ls 10 [(2, .int x2), (5, .int x5), (7, .int (0 : Int32)), (8, .int x8), (9, .int x9)] → W p l e (rmK 4) s m args below meth c H locs 0 0 (MQ below (qcI G (gA 334 a) (cP G a z) (v_L_isBill_t372_0 z p1 x2 x5 x8 x9)) args s 0 0 (gA 334 a)) (F0 m 372 ls []) := by
    intro x2 x5 x8 x9 H locs hP hS ls hl
    refine lv_iload hx hb dL_isBill_372 (lv_at hl 2 rfl) ?_
    refine lv_if_eq (tgt := 424) hx hb dL_isBill_374 (by decide) (fun _ => ?_) (fun c => absurd (by decide) c)
    refine lv_iconst (v := 0) hx hb dL_isBill_424 (by decide) ?_
    exact e_int S hr hlk rfl hK hS hP (show v_L_isBill_t372_0 z p1 x2 x5 x8 x9 = (0 : Int32) from rfl).symm dL_isBill_425
  have T_372_1 : ∀ (x2 : Int32) (x5 : Int32) (x8 : Int32) (x9 : Int32) (H : Heap) (locs : List Loc), cP G a z H → va_S (gA 334 a) s.heap H locs → ∀ ls : Array Slot, lv_has ls 10 [(2, .int x2), (5, .int x5), (7, .int (1 : Int32)), (8, .int x8), (9, .int x9)] → W p l e (rmK 4) s m args below meth c H locs 0 0 (MQ below (qcI G (gA 334 a) (cP G a z) (v_L_isBill_t372_1 z p1 x2 x5 x8 x9)) args s 0 0 (gA 334 a)) (F0 m 372 ls []) := by
    intro x2 x5 x8 x9 H locs hP hS ls hl
    refine lv_iload hx hb dL_isBill_372 (lv_at hl 2 rfl) ?_
    refine lv_if_eq (tgt := 424) hx hb dL_isBill_374 (by decide) (fun c => absurd c (by decide)) (fun _ => ?_)
    refine lv_iload hx hb dL_isBill_377 (lv_at hl 3 rfl) ?_
    refine lv_if_ne (tgt := 386) hx hb dL_isBill_379 (by decide) (fun c48 => ?_) (fun c48 => ?_)
    · skip
      refine lv_iconst (v := 0) hx hb dL_isBill_386 (by decide) ?_
      refine lv_iload hx hb dL_isBill_387 (lv_at hl 4 rfl) ?_
      refine lv_iload hx hb dL_isBill_389 (lv_at hl 1 rfl) ?_
      refine lv_icmp_ne (tgt := 398) hx hb dL_isBill_391 (by decide) (fun c49 => ?_) (fun c49 => ?_)
      · skip
        refine lv_iconst (v := 0) hx hb dL_isBill_398 (by decide) ?_
        refine lv_icmp_ne (tgt := 424) hx hb dL_isBill_399 (by decide) (fun c => absurd (by decide) c) (fun _ => ?_)
        refine q_eqIz (show v_L_isBill_t372_1 z p1 x2 x5 x8 x9 = v_L_isBill_t402_1 z p1 x2 x5 x9 from (if_neg c48).trans ((if_neg c49).trans rfl)) rfl ?_
        exact T_402_1 _ _ _  _ _ hP hS ls (lv_sub hl [0, 1, 4] rfl)
      · skip
        refine lv_iconst (v := 1) hx hb dL_isBill_394 (by decide) ?_
        refine lv_goto (tgt := 399) hx hb dL_isBill_395 (by decide) ?_
        refine lv_icmp_ne (tgt := 424) hx hb dL_isBill_399 (by decide) (fun _ => ?_) (fun c => absurd c (by decide))
        refine lv_iconst (v := 0) hx hb dL_isBill_424 (by decide) ?_
        exact e_int S hr hlk rfl hK hS hP (show v_L_isBill_t372_1 z p1 x2 x5 x8 x9 = (0 : Int32) from (if_neg c48).trans ((if_pos c49).trans rfl)).symm dL_isBill_425
    · skip
      refine lv_iconst (v := 1) hx hb dL_isBill_382 (by decide) ?_
      refine lv_goto (tgt := 387) hx hb dL_isBill_383 (by decide) ?_
      refine lv_iload hx hb dL_isBill_387 (lv_at hl 4 rfl) ?_
      refine lv_iload hx hb dL_isBill_389 (lv_at hl 1 rfl) ?_
      refine lv_icmp_ne (tgt := 398) hx hb dL_isBill_391 (by decide) (fun c50 => ?_) (fun c50 => ?_)
      · skip
        refine lv_iconst (v := 0) hx hb dL_isBill_398 (by decide) ?_
        refine lv_icmp_ne (tgt := 424) hx hb dL_isBill_399 (by decide) (fun _ => ?_) (fun c => absurd c (by decide))
        refine lv_iconst (v := 0) hx hb dL_isBill_424 (by decide) ?_
        exact e_int S hr hlk rfl hK hS hP (show v_L_isBill_t372_1 z p1 x2 x5 x8 x9 = (0 : Int32) from (if_pos c48).trans ((if_neg c50).trans rfl)).symm dL_isBill_425
      · skip
        refine lv_iconst (v := 1) hx hb dL_isBill_394 (by decide) ?_
        refine lv_goto (tgt := 399) hx hb dL_isBill_395 (by decide) ?_
        refine lv_icmp_ne (tgt := 424) hx hb dL_isBill_399 (by decide) (fun c => absurd (by decide) c) (fun _ => ?_)
        refine q_eqIz (show v_L_isBill_t372_1 z p1 x2 x5 x8 x9 = v_L_isBill_t402_1 z p1 x2 x5 x9 from (if_pos c48).trans ((if_pos c50).trans rfl)) rfl ?_
        exact T_402_1 _ _ _  _ _ hP hS ls (lv_sub hl [0, 1, 4] rfl)
  have T_273_0_0 : ∀ (x2 : Int32) (x5 : Int32) (H : Heap) (locs : List Loc), cP G a z H → va_S (gA 334 a) s.heap H locs → ∀ ls : Array Slot, lv_has ls 10 [(0, .ref (a 329)), (1, .int p1), (2, .int x2), (5, .int x5), (6, .int (0 : Int32)), (7, .int (0 : Int32))] → W p l e (rmK 4) s m args below meth c H locs 0 0 (MQ below (qcI G (gA 334 a) (cP G a z) (v_L_isBill_t273_0_0 z p1 x2 x5)) args s 0 0 (gA 334 a)) (F0 m 273 ls []) := by
    intro x2 x5 H locs hP hS ls hl
    refine lv_aload_n hx hb dL_isBill_273 rfl (lv_at hl 0 rfl) ?_
    refine lv_iload_n hx hb dL_isBill_274 rfl (lv_at hl 1 rfl) ?_
    refine r_callI S hK hP (c_X5_reason l G a hI z _ hR hJ) (r_cw S k_182 k_179 k_180 k_181 k_2 q_X5_reason ⟨Nat.le_of_ble_eq_true rfl, Nat.le_of_ble_eq_true rfl⟩ rfl rfl) (g_recv hK hP (i := 329) (by omega) cC0 rfl) rfl hl.1 rfl (Nat.le_of_ble_eq_true rfl) dL_isBill_275 ⟨Nat.zero_le _, Nat.zero_le _⟩ hS (fun _ h => h) (fun H locs hP _ _ hS => ?_)
    have hP : cP G a z H := hP
    refine lv_istore (lv' := [(8, .int (v_X5_reason z p1)), (0, .ref (a 329)), (1, .int p1), (2, .int x2), (5, .int x5), (6, .int (0 : Int32)), (7, .int (0 : Int32))]) hx hb dL_isBill_278 hl (by decide) rfl (fun ls hl => ?_)
    refine lv_aload_n hx hb dL_isBill_280 rfl (lv_at hl 1 rfl) ?_
    refine lv_iload_n hx hb dL_isBill_281 rfl (lv_at hl 2 rfl) ?_
    refine r_callI S hK hP (c_X5_nextReminder l G a hI z _ hR hJ) (r_cw S k_198 k_195 k_196 k_197 k_2 q_X5_nextReminder ⟨Nat.le_of_ble_eq_true rfl, Nat.le_of_ble_eq_true rfl⟩ rfl rfl) (g_recv hK hP (i := 329) (by omega) cC0 rfl) rfl hl.1 rfl (Nat.le_of_ble_eq_true rfl) dL_isBill_282 ⟨Nat.zero_le _, Nat.zero_le _⟩ hS (fun _ h => h) (fun H locs hP _ _ hS => ?_)
    have hP : cP G a z H := hP
    refine lv_istore (lv' := [(9, .int (v_X5_nextReminder z p1)), (8, .int (v_X5_reason z p1)), (0, .ref (a 329)), (1, .int p1), (2, .int x2), (5, .int x5), (6, .int (0 : Int32)), (7, .int (0 : Int32))]) hx hb dL_isBill_285 hl (by decide) rfl (fun ls hl => ?_)
    refine lv_iload hx hb dL_isBill_287 (lv_at hl 7 rfl) ?_
    refine lv_if_eq (tgt := 369) hx hb dL_isBill_289 (by decide) (fun _ => ?_) (fun c => absurd (by decide) c)
    refine lv_iconst (v := 0) hx hb dL_isBill_369 (by decide) ?_
    refine lv_istore (lv' := [(7, .int (0 : Int32)), (9, .int (v_X5_nextReminder z p1)), (8, .int (v_X5_reason z p1)), (0, .ref (a 329)), (1, .int p1), (2, .int x2), (5, .int x5), (6, .int (0 : Int32))]) hx hb dL_isBill_370 hl (by decide) rfl (fun ls hl => ?_)
    refine q_eqIz (show v_L_isBill_t273_0_0 z p1 x2 x5 = v_L_isBill_t372_0 z p1 x2 x5 (v_X5_reason z p1) (v_X5_nextReminder z p1) from rfl) rfl ?_
    exact T_372_0 _ _ _ _  _ _ hP hS ls (lv_sub hl [5, 6, 0, 2, 1] rfl)
  have T_273_0_1 : ∀ (x2 : Int32) (x5 : Int32) (H : Heap) (locs : List Loc), cP G a z H → va_S (gA 334 a) s.heap H locs → ∀ ls : Array Slot, lv_has ls 10 [(0, .ref (a 329)), (1, .int p1), (2, .int x2), (5, .int x5), (6, .int (1 : Int32)), (7, .int (0 : Int32))] → W p l e (rmK 4) s m args below meth c H locs 0 0 (MQ below (qcI G (gA 334 a) (cP G a z) (v_L_isBill_t273_0_1 z p1 x2 x5)) args s 0 0 (gA 334 a)) (F0 m 273 ls []) := by
    intro x2 x5 H locs hP hS ls hl
    refine lv_aload_n hx hb dL_isBill_273 rfl (lv_at hl 0 rfl) ?_
    refine lv_iload_n hx hb dL_isBill_274 rfl (lv_at hl 1 rfl) ?_
    refine r_callI S hK hP (c_X5_reason l G a hI z _ hR hJ) (r_cw S k_182 k_179 k_180 k_181 k_2 q_X5_reason ⟨Nat.le_of_ble_eq_true rfl, Nat.le_of_ble_eq_true rfl⟩ rfl rfl) (g_recv hK hP (i := 329) (by omega) cC0 rfl) rfl hl.1 rfl (Nat.le_of_ble_eq_true rfl) dL_isBill_275 ⟨Nat.zero_le _, Nat.zero_le _⟩ hS (fun _ h => h) (fun H locs hP _ _ hS => ?_)
    have hP : cP G a z H := hP
    refine lv_istore (lv' := [(8, .int (v_X5_reason z p1)), (0, .ref (a 329)), (1, .int p1), (2, .int x2), (5, .int x5), (6, .int (1 : Int32)), (7, .int (0 : Int32))]) hx hb dL_isBill_278 hl (by decide) rfl (fun ls hl => ?_)
    refine lv_aload_n hx hb dL_isBill_280 rfl (lv_at hl 1 rfl) ?_
    refine lv_iload_n hx hb dL_isBill_281 rfl (lv_at hl 2 rfl) ?_
    refine r_callI S hK hP (c_X5_nextReminder l G a hI z _ hR hJ) (r_cw S k_198 k_195 k_196 k_197 k_2 q_X5_nextReminder ⟨Nat.le_of_ble_eq_true rfl, Nat.le_of_ble_eq_true rfl⟩ rfl rfl) (g_recv hK hP (i := 329) (by omega) cC0 rfl) rfl hl.1 rfl (Nat.le_of_ble_eq_true rfl) dL_isBill_282 ⟨Nat.zero_le _, Nat.zero_le _⟩ hS (fun _ h => h) (fun H locs hP _ _ hS => ?_)
    have hP : cP G a z H := hP
    refine lv_istore (lv' := [(9, .int (v_X5_nextReminder z p1)), (8, .int (v_X5_reason z p1)), (0, .ref (a 329)), (1, .int p1), (2, .int x2), (5, .int x5), (6, .int (1 : Int32)), (7, .int (0 : Int32))]) hx hb dL_isBill_285 hl (by decide) rfl (fun ls hl => ?_)
    refine lv_iload hx hb dL_isBill_287 (lv_at hl 7 rfl) ?_
    refine lv_if_eq (tgt := 369) hx hb dL_isBill_289 (by decide) (fun _ => ?_) (fun c => absurd (by decide) c)
    refine lv_iconst (v := 0) hx hb dL_isBill_369 (by decide) ?_
    refine lv_istore (lv' := [(7, .int (0 : Int32)), (9, .int (v_X5_nextReminder z p1)), (8, .int (v_X5_reason z p1)), (0, .ref (a 329)), (1, .int p1), (2, .int x2), (5, .int x5), (6, .int (1 : Int32))]) hx hb dL_isBill_370 hl (by decide) rfl (fun ls hl => ?_)
    refine q_eqIz (show v_L_isBill_t273_0_1 z p1 x2 x5 = v_L_isBill_t372_0 z p1 x2 x5 (v_X5_reason z p1) (v_X5_nextReminder z p1) from rfl) rfl ?_
    exact T_372_0 _ _ _ _  _ _ hP hS ls (lv_sub hl [5, 6, 0, 2, 1] rfl)
  have T_273_1_0 : ∀ (x2 : Int32) (x5 : Int32) (H : Heap) (locs : List Loc), cP G a z H → va_S (gA 334 a) s.heap H locs → ∀ ls : Array Slot, lv_has ls 10 [(0, .ref (a 329)), (1, .int p1), (2, .int x2), (5, .int x5), (6, .int (0 : Int32)), (7, .int (1 : Int32))] → W p l e (rmK 4) s m args below meth c H locs 0 0 (MQ below (qcI G (gA 334 a) (cP G a z) (v_L_isBill_t273_1_0 z p1 x2 x5)) args s 0 0 (gA 334 a)) (F0 m 273 ls []) := by
    intro x2 x5 H locs hP hS ls hl
    refine lv_aload_n hx hb dL_isBill_273 rfl (lv_at hl 0 rfl) ?_
    refine lv_iload_n hx hb dL_isBill_274 rfl (lv_at hl 1 rfl) ?_
    refine r_callI S hK hP (c_X5_reason l G a hI z _ hR hJ) (r_cw S k_182 k_179 k_180 k_181 k_2 q_X5_reason ⟨Nat.le_of_ble_eq_true rfl, Nat.le_of_ble_eq_true rfl⟩ rfl rfl) (g_recv hK hP (i := 329) (by omega) cC0 rfl) rfl hl.1 rfl (Nat.le_of_ble_eq_true rfl) dL_isBill_275 ⟨Nat.zero_le _, Nat.zero_le _⟩ hS (fun _ h => h) (fun H locs hP _ _ hS => ?_)
    have hP : cP G a z H := hP
    refine lv_istore (lv' := [(8, .int (v_X5_reason z p1)), (0, .ref (a 329)), (1, .int p1), (2, .int x2), (5, .int x5), (6, .int (0 : Int32)), (7, .int (1 : Int32))]) hx hb dL_isBill_278 hl (by decide) rfl (fun ls hl => ?_)
    refine lv_aload_n hx hb dL_isBill_280 rfl (lv_at hl 1 rfl) ?_
    refine lv_iload_n hx hb dL_isBill_281 rfl (lv_at hl 2 rfl) ?_
    refine r_callI S hK hP (c_X5_nextReminder l G a hI z _ hR hJ) (r_cw S k_198 k_195 k_196 k_197 k_2 q_X5_nextReminder ⟨Nat.le_of_ble_eq_true rfl, Nat.le_of_ble_eq_true rfl⟩ rfl rfl) (g_recv hK hP (i := 329) (by omega) cC0 rfl) rfl hl.1 rfl (Nat.le_of_ble_eq_true rfl) dL_isBill_282 ⟨Nat.zero_le _, Nat.zero_le _⟩ hS (fun _ h => h) (fun H locs hP _ _ hS => ?_)
    have hP : cP G a z H := hP
    refine lv_istore (lv' := [(9, .int (v_X5_nextReminder z p1)), (8, .int (v_X5_reason z p1)), (0, .ref (a 329)), (1, .int p1), (2, .int x2), (5, .int x5), (6, .int (0 : Int32)), (7, .int (1 : Int32))]) hx hb dL_isBill_285 hl (by decide) rfl (fun ls hl => ?_)
    refine lv_iload hx hb dL_isBill_287 (lv_at hl 7 rfl) ?_
    refine lv_if_eq (tgt := 369) hx hb dL_isBill_289 (by decide) (fun c => absurd c (by decide)) (fun _ => ?_)
    refine lv_iload_n hx hb dL_isBill_292 rfl (lv_at hl 4 rfl) ?_
    refine lv_iconst (v := 1) hx hb dL_isBill_293 (by decide) ?_
    refine lv_icmp_ne (tgt := 306) hx hb dL_isBill_294 (by decide) (fun c35 => ?_) (fun c35 => ?_)
    · skip
      refine lv_iload_n hx hb dL_isBill_306 rfl (lv_at hl 4 rfl) ?_
      refine lv_iconst (v := 2) hx hb dL_isBill_307 (by decide) ?_
      refine lv_icmp_ne (tgt := 320) hx hb dL_isBill_308 (by decide) (fun c36 => ?_) (fun c36 => ?_)
      · skip
        refine lv_iload hx hb dL_isBill_320 (lv_at hl 6 rfl) ?_
        refine lv_if_ne (tgt := 334) hx hb dL_isBill_322 (by decide) (fun c => absurd (by decide) c) (fun _ => ?_)
        refine lv_iload hx hb dL_isBill_325 (lv_at hl 1 rfl) ?_
        refine lv_iconst (v := 3) hx hb dL_isBill_327 (by decide) ?_
        refine lv_icmp_ne (tgt := 369) hx hb dL_isBill_328 (by decide) (fun c37 => ?_) (fun c37 => ?_)
        · skip
          refine lv_iconst (v := 0) hx hb dL_isBill_369 (by decide) ?_
          refine lv_istore (lv' := [(7, .int (0 : Int32)), (9, .int (v_X5_nextReminder z p1)), (8, .int (v_X5_reason z p1)), (0, .ref (a 329)), (1, .int p1), (2, .int x2), (5, .int x5), (6, .int (0 : Int32))]) hx hb dL_isBill_370 hl (by decide) rfl (fun ls hl => ?_)
          refine q_eqIz (show v_L_isBill_t273_1_0 z p1 x2 x5 = v_L_isBill_t372_0 z p1 x2 x5 (v_X5_reason z p1) (v_X5_nextReminder z p1) from (if_neg c35).trans ((if_neg c36).trans ((if_neg c37).trans rfl))) rfl ?_
          exact T_372_0 _ _ _ _  _ _ hP hS ls (lv_sub hl [5, 6, 0, 2, 1] rfl)
        · skip
          refine lv_goto (tgt := 365) hx hb dL_isBill_331 (by decide) ?_
          refine lv_iconst (v := 1) hx hb dL_isBill_365 (by decide) ?_
          refine lv_goto (tgt := 370) hx hb dL_isBill_366 (by decide) ?_
          refine lv_istore (lv' := [(7, .int (1 : Int32)), (9, .int (v_X5_nextReminder z p1)), (8, .int (v_X5_reason z p1)), (0, .ref (a 329)), (1, .int p1), (2, .int x2), (5, .int x5), (6, .int (0 : Int32))]) hx hb dL_isBill_370 hl (by decide) rfl (fun ls hl => ?_)
          refine q_eqIz (show v_L_isBill_t273_1_0 z p1 x2 x5 = v_L_isBill_t372_1 z p1 x2 x5 (v_X5_reason z p1) (v_X5_nextReminder z p1) from (if_neg c35).trans ((if_neg c36).trans ((if_pos c37).trans rfl))) rfl ?_
          exact T_372_1 _ _ _ _  _ _ hP hS ls (lv_sub hl [5, 6, 0, 2, 1] rfl)
      · skip
        refine lv_iload hx hb dL_isBill_311 (lv_at hl 1 rfl) ?_
        refine lv_iconst (v := 2) hx hb dL_isBill_313 (by decide) ?_
        refine lv_icmp_ne (tgt := 369) hx hb dL_isBill_314 (by decide) (fun c38 => ?_) (fun c38 => ?_)
        · skip
          refine lv_iconst (v := 0) hx hb dL_isBill_369 (by decide) ?_
          refine lv_istore (lv' := [(7, .int (0 : Int32)), (9, .int (v_X5_nextReminder z p1)), (8, .int (v_X5_reason z p1)), (0, .ref (a 329)), (1, .int p1), (2, .int x2), (5, .int x5), (6, .int (0 : Int32))]) hx hb dL_isBill_370 hl (by decide) rfl (fun ls hl => ?_)
          refine q_eqIz (show v_L_isBill_t273_1_0 z p1 x2 x5 = v_L_isBill_t372_0 z p1 x2 x5 (v_X5_reason z p1) (v_X5_nextReminder z p1) from (if_neg c35).trans ((if_pos c36).trans ((if_neg c38).trans rfl))) rfl ?_
          exact T_372_0 _ _ _ _  _ _ hP hS ls (lv_sub hl [5, 6, 0, 2, 1] rfl)
        · skip
          refine lv_goto (tgt := 365) hx hb dL_isBill_317 (by decide) ?_
          refine lv_iconst (v := 1) hx hb dL_isBill_365 (by decide) ?_
          refine lv_goto (tgt := 370) hx hb dL_isBill_366 (by decide) ?_
          refine lv_istore (lv' := [(7, .int (1 : Int32)), (9, .int (v_X5_nextReminder z p1)), (8, .int (v_X5_reason z p1)), (0, .ref (a 329)), (1, .int p1), (2, .int x2), (5, .int x5), (6, .int (0 : Int32))]) hx hb dL_isBill_370 hl (by decide) rfl (fun ls hl => ?_)
          refine q_eqIz (show v_L_isBill_t273_1_0 z p1 x2 x5 = v_L_isBill_t372_1 z p1 x2 x5 (v_X5_reason z p1) (v_X5_nextReminder z p1) from (if_neg c35).trans ((if_pos c36).trans ((if_pos c38).trans rfl))) rfl ?_
          exact T_372_1 _ _ _ _  _ _ hP hS ls (lv_sub hl [5, 6, 0, 2, 1] rfl)
    · skip
      refine lv_iload hx hb dL_isBill_297 (lv_at hl 1 rfl) ?_
      refine lv_iconst (v := 1) hx hb dL_isBill_299 (by decide) ?_
      refine lv_icmp_ne (tgt := 369) hx hb dL_isBill_300 (by decide) (fun c39 => ?_) (fun c39 => ?_)
      · skip
        refine lv_iconst (v := 0) hx hb dL_isBill_369 (by decide) ?_
        refine lv_istore (lv' := [(7, .int (0 : Int32)), (9, .int (v_X5_nextReminder z p1)), (8, .int (v_X5_reason z p1)), (0, .ref (a 329)), (1, .int p1), (2, .int x2), (5, .int x5), (6, .int (0 : Int32))]) hx hb dL_isBill_370 hl (by decide) rfl (fun ls hl => ?_)
        refine q_eqIz (show v_L_isBill_t273_1_0 z p1 x2 x5 = v_L_isBill_t372_0 z p1 x2 x5 (v_X5_reason z p1) (v_X5_nextReminder z p1) from (if_pos c35).trans ((if_neg c39).trans rfl)) rfl ?_
        exact T_372_0 _ _ _ _  _ _ hP hS ls (lv_sub hl [5, 6, 0, 2, 1] rfl)
      · skip
        refine lv_goto (tgt := 365) hx hb dL_isBill_303 (by decide) ?_
        refine lv_iconst (v := 1) hx hb dL_isBill_365 (by decide) ?_
        refine lv_goto (tgt := 370) hx hb dL_isBill_366 (by decide) ?_
        refine lv_istore (lv' := [(7, .int (1 : Int32)), (9, .int (v_X5_nextReminder z p1)), (8, .int (v_X5_reason z p1)), (0, .ref (a 329)), (1, .int p1), (2, .int x2), (5, .int x5), (6, .int (0 : Int32))]) hx hb dL_isBill_370 hl (by decide) rfl (fun ls hl => ?_)
        refine q_eqIz (show v_L_isBill_t273_1_0 z p1 x2 x5 = v_L_isBill_t372_1 z p1 x2 x5 (v_X5_reason z p1) (v_X5_nextReminder z p1) from (if_pos c35).trans ((if_pos c39).trans rfl)) rfl ?_
        exact T_372_1 _ _ _ _  _ _ hP hS ls (lv_sub hl [5, 6, 0, 2, 1] rfl)
  have T_273_1_1 : ∀ (x2 : Int32) (x5 : Int32) (H : Heap) (locs : List Loc), cP G a z H → va_S (gA 334 a) s.heap H locs → ∀ ls : Array Slot, lv_has ls 10 [(0, .ref (a 329)), (1, .int p1), (2, .int x2), (5, .int x5), (6, .int (1 : Int32)), (7, .int (1 : Int32))] → W p l e (rmK 4) s m args below meth c H locs 0 0 (MQ below (qcI G (gA 334 a) (cP G a z) (v_L_isBill_t273_1_1 z p1 x2 x5)) args s 0 0 (gA 334 a)) (F0 m 273 ls []) := by
    intro x2 x5 H locs hP hS ls hl
    refine lv_aload_n hx hb dL_isBill_273 rfl (lv_at hl 0 rfl) ?_
    refine lv_iload_n hx hb dL_isBill_274 rfl (lv_at hl 1 rfl) ?_
    refine r_callI S hK hP (c_X5_reason l G a hI z _ hR hJ) (r_cw S k_182 k_179 k_180 k_181 k_2 q_X5_reason ⟨Nat.le_of_ble_eq_true rfl, Nat.le_of_ble_eq_true rfl⟩ rfl rfl) (g_recv hK hP (i := 329) (by omega) cC0 rfl) rfl hl.1 rfl (Nat.le_of_ble_eq_true rfl) dL_isBill_275 ⟨Nat.zero_le _, Nat.zero_le _⟩ hS (fun _ h => h) (fun H locs hP _ _ hS => ?_)
    have hP : cP G a z H := hP
    refine lv_istore (lv' := [(8, .int (v_X5_reason z p1)), (0, .ref (a 329)), (1, .int p1), (2, .int x2), (5, .int x5), (6, .int (1 : Int32)), (7, .int (1 : Int32))]) hx hb dL_isBill_278 hl (by decide) rfl (fun ls hl => ?_)
    refine lv_aload_n hx hb dL_isBill_280 rfl (lv_at hl 1 rfl) ?_
    refine lv_iload_n hx hb dL_isBill_281 rfl (lv_at hl 2 rfl) ?_
    refine r_callI S hK hP (c_X5_nextReminder l G a hI z _ hR hJ) (r_cw S k_198 k_195 k_196 k_197 k_2 q_X5_nextReminder ⟨Nat.le_of_ble_eq_true rfl, Nat.le_of_ble_eq_true rfl⟩ rfl rfl) (g_recv hK hP (i := 329) (by omega) cC0 rfl) rfl hl.1 rfl (Nat.le_of_ble_eq_true rfl) dL_isBill_282 ⟨Nat.zero_le _, Nat.zero_le _⟩ hS (fun _ h => h) (fun H locs hP _ _ hS => ?_)
    have hP : cP G a z H := hP
    refine lv_istore (lv' := [(9, .int (v_X5_nextReminder z p1)), (8, .int (v_X5_reason z p1)), (0, .ref (a 329)), (1, .int p1), (2, .int x2), (5, .int x5), (6, .int (1 : Int32)), (7, .int (1 : Int32))]) hx hb dL_isBill_285 hl (by decide) rfl (fun ls hl => ?_)
    refine lv_iload hx hb dL_isBill_287 (lv_at hl 7 rfl) ?_
    refine lv_if_eq (tgt := 369) hx hb dL_isBill_289 (by decide) (fun c => absurd c (by decide)) (fun _ => ?_)
    refine lv_iload_n hx hb dL_isBill_292 rfl (lv_at hl 4 rfl) ?_
    refine lv_iconst (v := 1) hx hb dL_isBill_293 (by decide) ?_
    refine lv_icmp_ne (tgt := 306) hx hb dL_isBill_294 (by decide) (fun c40 => ?_) (fun c40 => ?_)
    · skip
      refine lv_iload_n hx hb dL_isBill_306 rfl (lv_at hl 4 rfl) ?_
      refine lv_iconst (v := 2) hx hb dL_isBill_307 (by decide) ?_
      refine lv_icmp_ne (tgt := 320) hx hb dL_isBill_308 (by decide) (fun c41 => ?_) (fun c41 => ?_)
      · skip
        refine lv_iload hx hb dL_isBill_320 (lv_at hl 6 rfl) ?_
        refine lv_if_ne (tgt := 334) hx hb dL_isBill_322 (by decide) (fun _ => ?_) (fun c => absurd c (by decide))
        refine lv_aload_n hx hb dL_isBill_334 rfl (lv_at hl 2 rfl) ?_
        refine lv_iload_n hx hb dL_isBill_335 rfl (lv_at hl 3 rfl) ?_
        refine lv_bipush (v := 11) hx hb dL_isBill_336 (by decide) ?_
        refine r_callI S hK hP (c_X5_billOf l G a hI z _ _ hR hJ) (r_cw S k_153 k_150 k_151 k_152 k_2 q_X5_billOf ⟨Nat.le_of_ble_eq_true rfl, Nat.le_of_ble_eq_true rfl⟩ rfl rfl) (g_recv hK hP (i := 329) (by omega) cC0 rfl) rfl hl.1 rfl (Nat.le_of_ble_eq_true rfl) dL_isBill_338 ⟨Nat.zero_le _, Nat.zero_le _⟩ hS (fun _ h => h) (fun H locs hP _ _ hS => ?_)
        have hP : cP G a z H := hP
        refine lv_iconst (v := 3) hx hb dL_isBill_341 (by decide) ?_
        refine lv_icmp_ne (tgt := 354) hx hb dL_isBill_342 (by decide) (fun c42 => ?_) (fun c42 => ?_)
        · skip
          refine lv_iload hx hb dL_isBill_354 (lv_at hl 1 rfl) ?_
          refine lv_iconst (v := 5) hx hb dL_isBill_356 (by decide) ?_
          refine lv_icmp_eq (tgt := 365) hx hb dL_isBill_357 (by decide) (fun c43 => ?_) (fun c43 => ?_)
          · skip
            refine lv_iconst (v := 1) hx hb dL_isBill_365 (by decide) ?_
            refine lv_goto (tgt := 370) hx hb dL_isBill_366 (by decide) ?_
            refine lv_istore (lv' := [(7, .int (1 : Int32)), (9, .int (v_X5_nextReminder z p1)), (8, .int (v_X5_reason z p1)), (0, .ref (a 329)), (1, .int p1), (2, .int x2), (5, .int x5), (6, .int (1 : Int32))]) hx hb dL_isBill_370 hl (by decide) rfl (fun ls hl => ?_)
            refine q_eqIz (show v_L_isBill_t273_1_1 z p1 x2 x5 = v_L_isBill_t372_1 z p1 x2 x5 (v_X5_reason z p1) (v_X5_nextReminder z p1) from (if_neg c40).trans ((if_neg c41).trans ((if_neg c42).trans ((if_pos c43).trans rfl)))) rfl ?_
            exact T_372_1 _ _ _ _  _ _ hP hS ls (lv_sub hl [5, 6, 0, 2, 1] rfl)
          · skip
            refine lv_iload hx hb dL_isBill_360 (lv_at hl 1 rfl) ?_
            refine lv_if_ne (tgt := 369) hx hb dL_isBill_362 (by decide) (fun c44 => ?_) (fun c44 => ?_)
            · skip
              refine lv_iconst (v := 0) hx hb dL_isBill_369 (by decide) ?_
              refine lv_istore (lv' := [(7, .int (0 : Int32)), (9, .int (v_X5_nextReminder z p1)), (8, .int (v_X5_reason z p1)), (0, .ref (a 329)), (1, .int p1), (2, .int x2), (5, .int x5), (6, .int (1 : Int32))]) hx hb dL_isBill_370 hl (by decide) rfl (fun ls hl => ?_)
              refine q_eqIz (show v_L_isBill_t273_1_1 z p1 x2 x5 = v_L_isBill_t372_0 z p1 x2 x5 (v_X5_reason z p1) (v_X5_nextReminder z p1) from (if_neg c40).trans ((if_neg c41).trans ((if_neg c42).trans ((if_neg c43).trans ((if_neg c44).trans rfl))))) rfl ?_
              exact T_372_0 _ _ _ _  _ _ hP hS ls (lv_sub hl [5, 6, 0, 2, 1] rfl)
            · skip
              refine lv_iconst (v := 1) hx hb dL_isBill_365 (by decide) ?_
              refine lv_goto (tgt := 370) hx hb dL_isBill_366 (by decide) ?_
              refine lv_istore (lv' := [(7, .int (1 : Int32)), (9, .int (v_X5_nextReminder z p1)), (8, .int (v_X5_reason z p1)), (0, .ref (a 329)), (1, .int p1), (2, .int x2), (5, .int x5), (6, .int (1 : Int32))]) hx hb dL_isBill_370 hl (by decide) rfl (fun ls hl => ?_)
              refine q_eqIz (show v_L_isBill_t273_1_1 z p1 x2 x5 = v_L_isBill_t372_1 z p1 x2 x5 (v_X5_reason z p1) (v_X5_nextReminder z p1) from (if_neg c40).trans ((if_neg c41).trans ((if_neg c42).trans ((if_neg c43).trans ((if_pos c44).trans rfl))))) rfl ?_
              exact T_372_1 _ _ _ _  _ _ hP hS ls (lv_sub hl [5, 6, 0, 2, 1] rfl)
        · skip
          refine lv_iload hx hb dL_isBill_345 (lv_at hl 1 rfl) ?_
          refine lv_iconst (v := 4) hx hb dL_isBill_347 (by decide) ?_
          refine lv_icmp_ne (tgt := 369) hx hb dL_isBill_348 (by decide) (fun c45 => ?_) (fun c45 => ?_)
          · skip
            refine lv_iconst (v := 0) hx hb dL_isBill_369 (by decide) ?_
            refine lv_istore (lv' := [(7, .int (0 : Int32)), (9, .int (v_X5_nextReminder z p1)), (8, .int (v_X5_reason z p1)), (0, .ref (a 329)), (1, .int p1), (2, .int x2), (5, .int x5), (6, .int (1 : Int32))]) hx hb dL_isBill_370 hl (by decide) rfl (fun ls hl => ?_)
            refine q_eqIz (show v_L_isBill_t273_1_1 z p1 x2 x5 = v_L_isBill_t372_0 z p1 x2 x5 (v_X5_reason z p1) (v_X5_nextReminder z p1) from (if_neg c40).trans ((if_neg c41).trans ((if_pos c42).trans ((if_neg c45).trans rfl)))) rfl ?_
            exact T_372_0 _ _ _ _  _ _ hP hS ls (lv_sub hl [5, 6, 0, 2, 1] rfl)
          · skip
            refine lv_goto (tgt := 365) hx hb dL_isBill_351 (by decide) ?_
            refine lv_iconst (v := 1) hx hb dL_isBill_365 (by decide) ?_
            refine lv_goto (tgt := 370) hx hb dL_isBill_366 (by decide) ?_
            refine lv_istore (lv' := [(7, .int (1 : Int32)), (9, .int (v_X5_nextReminder z p1)), (8, .int (v_X5_reason z p1)), (0, .ref (a 329)), (1, .int p1), (2, .int x2), (5, .int x5), (6, .int (1 : Int32))]) hx hb dL_isBill_370 hl (by decide) rfl (fun ls hl => ?_)
            refine q_eqIz (show v_L_isBill_t273_1_1 z p1 x2 x5 = v_L_isBill_t372_1 z p1 x2 x5 (v_X5_reason z p1) (v_X5_nextReminder z p1) from (if_neg c40).trans ((if_neg c41).trans ((if_pos c42).trans ((if_pos c45).trans rfl)))) rfl ?_
            exact T_372_1 _ _ _ _  _ _ hP hS ls (lv_sub hl [5, 6, 0, 2, 1] rfl)
      · skip
        refine lv_iload hx hb dL_isBill_311 (lv_at hl 1 rfl) ?_
        refine lv_iconst (v := 2) hx hb dL_isBill_313 (by decide) ?_
        refine lv_icmp_ne (tgt := 369) hx hb dL_isBill_314 (by decide) (fun c46 => ?_) (fun c46 => ?_)
        · skip
          refine lv_iconst (v := 0) hx hb dL_isBill_369 (by decide) ?_
          refine lv_istore (lv' := [(7, .int (0 : Int32)), (9, .int (v_X5_nextReminder z p1)), (8, .int (v_X5_reason z p1)), (0, .ref (a 329)), (1, .int p1), (2, .int x2), (5, .int x5), (6, .int (1 : Int32))]) hx hb dL_isBill_370 hl (by decide) rfl (fun ls hl => ?_)
          refine q_eqIz (show v_L_isBill_t273_1_1 z p1 x2 x5 = v_L_isBill_t372_0 z p1 x2 x5 (v_X5_reason z p1) (v_X5_nextReminder z p1) from (if_neg c40).trans ((if_pos c41).trans ((if_neg c46).trans rfl))) rfl ?_
          exact T_372_0 _ _ _ _  _ _ hP hS ls (lv_sub hl [5, 6, 0, 2, 1] rfl)
        · skip
          refine lv_goto (tgt := 365) hx hb dL_isBill_317 (by decide) ?_
          refine lv_iconst (v := 1) hx hb dL_isBill_365 (by decide) ?_
          refine lv_goto (tgt := 370) hx hb dL_isBill_366 (by decide) ?_
          refine lv_istore (lv' := [(7, .int (1 : Int32)), (9, .int (v_X5_nextReminder z p1)), (8, .int (v_X5_reason z p1)), (0, .ref (a 329)), (1, .int p1), (2, .int x2), (5, .int x5), (6, .int (1 : Int32))]) hx hb dL_isBill_370 hl (by decide) rfl (fun ls hl => ?_)
          refine q_eqIz (show v_L_isBill_t273_1_1 z p1 x2 x5 = v_L_isBill_t372_1 z p1 x2 x5 (v_X5_reason z p1) (v_X5_nextReminder z p1) from (if_neg c40).trans ((if_pos c41).trans ((if_pos c46).trans rfl))) rfl ?_
          exact T_372_1 _ _ _ _  _ _ hP hS ls (lv_sub hl [5, 6, 0, 2, 1] rfl)
    · skip
      refine lv_iload hx hb dL_isBill_297 (lv_at hl 1 rfl) ?_
      refine lv_iconst (v := 1) hx hb dL_isBill_299 (by decide) ?_
      refine lv_icmp_ne (tgt := 369) hx hb dL_isBill_300 (by decide) (fun c47 => ?_) (fun c47 => ?_)
      · skip
        refine lv_iconst (v := 0) hx hb dL_isBill_369 (by decide) ?_
        refine lv_istore (lv' := [(7, .int (0 : Int32)), (9, .int (v_X5_nextReminder z p1)), (8, .int (v_X5_reason z p1)), (0, .ref (a 329)), (1, .int p1), (2, .int x2), (5, .int x5), (6, .int (1 : Int32))]) hx hb dL_isBill_370 hl (by decide) rfl (fun ls hl => ?_)
        refine q_eqIz (show v_L_isBill_t273_1_1 z p1 x2 x5 = v_L_isBill_t372_0 z p1 x2 x5 (v_X5_reason z p1) (v_X5_nextReminder z p1) from (if_pos c40).trans ((if_neg c47).trans rfl)) rfl ?_
        exact T_372_0 _ _ _ _  _ _ hP hS ls (lv_sub hl [5, 6, 0, 2, 1] rfl)
      · skip
        refine lv_goto (tgt := 365) hx hb dL_isBill_303 (by decide) ?_
        refine lv_iconst (v := 1) hx hb dL_isBill_365 (by decide) ?_
        refine lv_goto (tgt := 370) hx hb dL_isBill_366 (by decide) ?_
        refine lv_istore (lv' := [(7, .int (1 : Int32)), (9, .int (v_X5_nextReminder z p1)), (8, .int (v_X5_reason z p1)), (0, .ref (a 329)), (1, .int p1), (2, .int x2), (5, .int x5), (6, .int (1 : Int32))]) hx hb dL_isBill_370 hl (by decide) rfl (fun ls hl => ?_)
        refine q_eqIz (show v_L_isBill_t273_1_1 z p1 x2 x5 = v_L_isBill_t372_1 z p1 x2 x5 (v_X5_reason z p1) (v_X5_nextReminder z p1) from (if_pos c40).trans ((if_pos c47).trans rfl)) rfl ?_
        exact T_372_1 _ _ _ _  _ _ hP hS ls (lv_sub hl [5, 6, 0, 2, 1] rfl)
  have T_183_0_0 : ∀ (x2 : Int32) (x5 : Int32) (H : Heap) (locs : List Loc), cP G a z H → va_S (gA 334 a) s.heap H locs → ∀ ls : Array Slot, lv_has ls 10 [(0, .ref (a 329)), (1, .int p1), (2, .int x2), (5, .int x5), (6, .int (0 : Int32)), (7, .int (0 : Int32))] → W p l e (rmK 4) s m args below meth c H locs 0 0 (MQ below (qcI G (gA 334 a) (cP G a z) (v_L_isBill_t183_0_0 z p1 x2 x5)) args s 0 0 (gA 334 a)) (F0 m 183 ls []) := by
    intro x2 x5 H locs hP hS ls hl
    refine lv_iload hx hb dL_isBill_183 (lv_at hl 5 rfl) ?_
    refine lv_if_eq (tgt := 270) hx hb dL_isBill_185 (by decide) (fun _ => ?_) (fun c => absurd (by decide) c)
    refine lv_iconst (v := 0) hx hb dL_isBill_270 (by decide) ?_
    refine lv_istore (lv' := [(7, .int (0 : Int32)), (0, .ref (a 329)), (1, .int p1), (2, .int x2), (5, .int x5), (6, .int (0 : Int32))]) hx hb dL_isBill_271 hl (by decide) rfl (fun ls hl => ?_)
    refine q_eqIz (show v_L_isBill_t183_0_0 z p1 x2 x5 = v_L_isBill_t273_0_0 z p1 x2 x5 from rfl) rfl ?_
    exact T_273_0_0 _ _  _ _ hP hS ls (lv_sub hl [1, 2, 3, 4, 5, 0] rfl)
  have T_183_0_1 : ∀ (x2 : Int32) (x5 : Int32) (H : Heap) (locs : List Loc), cP G a z H → va_S (gA 334 a) s.heap H locs → ∀ ls : Array Slot, lv_has ls 10 [(0, .ref (a 329)), (1, .int p1), (2, .int x2), (5, .int x5), (6, .int (1 : Int32)), (7, .int (0 : Int32))] → W p l e (rmK 4) s m args below meth c H locs 0 0 (MQ below (qcI G (gA 334 a) (cP G a z) (v_L_isBill_t183_0_1 z p1 x2 x5)) args s 0 0 (gA 334 a)) (F0 m 183 ls []) := by
    intro x2 x5 H locs hP hS ls hl
    refine lv_iload hx hb dL_isBill_183 (lv_at hl 5 rfl) ?_
    refine lv_if_eq (tgt := 270) hx hb dL_isBill_185 (by decide) (fun _ => ?_) (fun c => absurd (by decide) c)
    refine lv_iconst (v := 0) hx hb dL_isBill_270 (by decide) ?_
    refine lv_istore (lv' := [(7, .int (0 : Int32)), (0, .ref (a 329)), (1, .int p1), (2, .int x2), (5, .int x5), (6, .int (1 : Int32))]) hx hb dL_isBill_271 hl (by decide) rfl (fun ls hl => ?_)
    refine q_eqIz (show v_L_isBill_t183_0_1 z p1 x2 x5 = v_L_isBill_t273_0_1 z p1 x2 x5 from rfl) rfl ?_
    exact T_273_0_1 _ _  _ _ hP hS ls (lv_sub hl [1, 2, 3, 4, 5, 0] rfl)
  have T_183_1_0 : ∀ (x2 : Int32) (x5 : Int32) (H : Heap) (locs : List Loc), cP G a z H → va_S (gA 334 a) s.heap H locs → ∀ ls : Array Slot, lv_has ls 10 [(0, .ref (a 329)), (1, .int p1), (2, .int x2), (5, .int x5), (6, .int (0 : Int32)), (7, .int (1 : Int32))] → W p l e (rmK 4) s m args below meth c H locs 0 0 (MQ below (qcI G (gA 334 a) (cP G a z) (v_L_isBill_t183_1_0 z p1 x2 x5)) args s 0 0 (gA 334 a)) (F0 m 183 ls []) := by
    intro x2 x5 H locs hP hS ls hl
    refine lv_iload hx hb dL_isBill_183 (lv_at hl 5 rfl) ?_
    refine lv_if_eq (tgt := 270) hx hb dL_isBill_185 (by decide) (fun c => absurd c (by decide)) (fun _ => ?_)
    refine lv_aload_n hx hb dL_isBill_188 rfl (lv_at hl 0 rfl) ?_
    refine lv_iload_n hx hb dL_isBill_189 rfl (lv_at hl 1 rfl) ?_
    refine lv_bipush (v := 13) hx hb dL_isBill_190 (by decide) ?_
    refine r_callI S hK hP (c_X5_billOf l G a hI z _ _ hR hJ) (r_cw S k_153 k_150 k_151 k_152 k_2 q_X5_billOf ⟨Nat.le_of_ble_eq_true rfl, Nat.le_of_ble_eq_true rfl⟩ rfl rfl) (g_recv hK hP (i := 329) (by omega) cC0 rfl) rfl hl.1 rfl (Nat.le_of_ble_eq_true rfl) dL_isBill_192 ⟨Nat.zero_le _, Nat.zero_le _⟩ hS (fun _ h => h) (fun H locs hP _ _ hS => ?_)
    have hP : cP G a z H := hP
    refine lv_iload hx hb dL_isBill_195 (lv_at hl 4 rfl) ?_
    refine lv_if_eq (tgt := 204) hx hb dL_isBill_197 (by decide) (fun _ => ?_) (fun c => absurd (by decide) c)
    refine lv_iconst (v := 0) hx hb dL_isBill_204 (by decide) ?_
    refine lv_icmp_ne (tgt := 270) hx hb dL_isBill_205 (by decide) (fun c23 => ?_) (fun c23 => ?_)
    · skip
      refine lv_iconst (v := 0) hx hb dL_isBill_270 (by decide) ?_
      refine lv_istore (lv' := [(7, .int (0 : Int32)), (0, .ref (a 329)), (1, .int p1), (2, .int x2), (5, .int x5), (6, .int (0 : Int32))]) hx hb dL_isBill_271 hl (by decide) rfl (fun ls hl => ?_)
      refine q_eqIz (show v_L_isBill_t183_1_0 z p1 x2 x5 = v_L_isBill_t273_0_0 z p1 x2 x5 from (if_neg c23).trans rfl) rfl ?_
      exact T_273_0_0 _ _  _ _ hP hS ls (lv_sub hl [1, 2, 3, 4, 5, 0] rfl)
    · skip
      refine lv_aload_n hx hb dL_isBill_208 rfl (lv_at hl 0 rfl) ?_
      refine lv_iload_n hx hb dL_isBill_209 rfl (lv_at hl 1 rfl) ?_
      refine lv_iconst (v := 4) hx hb dL_isBill_210 (by decide) ?_
      refine r_callI S hK hP (c_X5_billOf l G a hI z _ _ hR hJ) (r_cw S k_153 k_150 k_151 k_152 k_2 q_X5_billOf ⟨Nat.le_of_ble_eq_true rfl, Nat.le_of_ble_eq_true rfl⟩ rfl rfl) (g_recv hK hP (i := 329) (by omega) cC0 rfl) rfl hl.1 rfl (Nat.le_of_ble_eq_true rfl) dL_isBill_211 ⟨Nat.zero_le _, Nat.zero_le _⟩ hS (fun _ h => h) (fun H locs hP _ _ hS => ?_)
      have hP : cP G a z H := hP
      refine lv_iload hx hb dL_isBill_214 (lv_at hl 3 rfl) ?_
      refine lv_icmp_gt (tgt := 270) hx hb dL_isBill_216 (by decide) (fun c24 => ?_) (fun c24 => ?_)
      · skip
        refine lv_iconst (v := 0) hx hb dL_isBill_270 (by decide) ?_
        refine lv_istore (lv' := [(7, .int (0 : Int32)), (0, .ref (a 329)), (1, .int p1), (2, .int x2), (5, .int x5), (6, .int (0 : Int32))]) hx hb dL_isBill_271 hl (by decide) rfl (fun ls hl => ?_)
        refine q_eqIz (show v_L_isBill_t183_1_0 z p1 x2 x5 = v_L_isBill_t273_0_0 z p1 x2 x5 from (if_pos c23).trans ((if_pos c24).trans rfl)) rfl ?_
        exact T_273_0_0 _ _  _ _ hP hS ls (lv_sub hl [1, 2, 3, 4, 5, 0] rfl)
      · skip
        refine lv_aload_n hx hb dL_isBill_219 rfl (lv_at hl 0 rfl) ?_
        refine lv_iload_n hx hb dL_isBill_220 rfl (lv_at hl 1 rfl) ?_
        refine lv_bipush (v := 12) hx hb dL_isBill_221 (by decide) ?_
        refine r_callI S hK hP (c_X5_billOf l G a hI z _ _ hR hJ) (r_cw S k_153 k_150 k_151 k_152 k_2 q_X5_billOf ⟨Nat.le_of_ble_eq_true rfl, Nat.le_of_ble_eq_true rfl⟩ rfl rfl) (g_recv hK hP (i := 329) (by omega) cC0 rfl) rfl hl.1 rfl (Nat.le_of_ble_eq_true rfl) dL_isBill_223 ⟨Nat.zero_le _, Nat.zero_le _⟩ hS (fun _ h => h) (fun H locs hP _ _ hS => ?_)
        have hP : cP G a z H := hP
        refine lv_iload hx hb dL_isBill_226 (lv_at hl 3 rfl) ?_
        refine lv_icmp_gt (tgt := 270) hx hb dL_isBill_228 (by decide) (fun c25 => ?_) (fun c25 => ?_)
        · skip
          refine lv_iconst (v := 0) hx hb dL_isBill_270 (by decide) ?_
          refine lv_istore (lv' := [(7, .int (0 : Int32)), (0, .ref (a 329)), (1, .int p1), (2, .int x2), (5, .int x5), (6, .int (0 : Int32))]) hx hb dL_isBill_271 hl (by decide) rfl (fun ls hl => ?_)
          refine q_eqIz (show v_L_isBill_t183_1_0 z p1 x2 x5 = v_L_isBill_t273_0_0 z p1 x2 x5 from (if_pos c23).trans ((if_neg c24).trans ((if_pos c25).trans rfl))) rfl ?_
          exact T_273_0_0 _ _  _ _ hP hS ls (lv_sub hl [1, 2, 3, 4, 5, 0] rfl)
        · skip
          refine lv_aload_n hx hb dL_isBill_231 rfl (lv_at hl 0 rfl) ?_
          refine lv_iload_n hx hb dL_isBill_232 rfl (lv_at hl 1 rfl) ?_
          refine lv_bipush (v := 12) hx hb dL_isBill_233 (by decide) ?_
          refine r_callI S hK hP (c_X5_billOf l G a hI z _ _ hR hJ) (r_cw S k_153 k_150 k_151 k_152 k_2 q_X5_billOf ⟨Nat.le_of_ble_eq_true rfl, Nat.le_of_ble_eq_true rfl⟩ rfl rfl) (g_recv hK hP (i := 329) (by omega) cC0 rfl) rfl hl.1 rfl (Nat.le_of_ble_eq_true rfl) dL_isBill_235 ⟨Nat.zero_le _, Nat.zero_le _⟩ hS (fun _ h => h) (fun H locs hP _ _ hS => ?_)
          have hP : cP G a z H := hP
          refine lv_bipush (v := -5) hx hb dL_isBill_238 (by decide) ?_
          refine lv_icmp_ne (tgt := 247) hx hb dL_isBill_240 (by decide) (fun c26 => ?_) (fun c26 => ?_)
          · skip
            refine lv_iconst (v := 0) hx hb dL_isBill_247 (by decide) ?_
            refine lv_aload_n hx hb dL_isBill_248 rfl (lv_at hl 0 rfl) ?_
            refine lv_iload_n hx hb dL_isBill_249 rfl (lv_at hl 1 rfl) ?_
            refine lv_bipush (v := 7) hx hb dL_isBill_250 (by decide) ?_
            refine r_callI S hK hP (c_X5_billOf l G a hI z _ _ hR hJ) (r_cw S k_153 k_150 k_151 k_152 k_2 q_X5_billOf ⟨Nat.le_of_ble_eq_true rfl, Nat.le_of_ble_eq_true rfl⟩ rfl rfl) (g_recv hK hP (i := 329) (by omega) cC0 rfl) rfl hl.1 rfl (Nat.le_of_ble_eq_true rfl) dL_isBill_252 ⟨Nat.zero_le _, Nat.zero_le _⟩ hS (fun _ h => h) (fun H locs hP _ _ hS => ?_)
            have hP : cP G a z H := hP
            refine lv_if_ne (tgt := 262) hx hb dL_isBill_255 (by decide) (fun c27 => ?_) (fun c27 => ?_)
            · skip
              refine lv_iconst (v := 0) hx hb dL_isBill_262 (by decide) ?_
              refine lv_icmp_ne (tgt := 270) hx hb dL_isBill_263 (by decide) (fun c => absurd (by decide) c) (fun _ => ?_)
              refine lv_iconst (v := 1) hx hb dL_isBill_266 (by decide) ?_
              refine lv_goto (tgt := 271) hx hb dL_isBill_267 (by decide) ?_
              refine lv_istore (lv' := [(7, .int (1 : Int32)), (0, .ref (a 329)), (1, .int p1), (2, .int x2), (5, .int x5), (6, .int (0 : Int32))]) hx hb dL_isBill_271 hl (by decide) rfl (fun ls hl => ?_)
              refine q_eqIz (show v_L_isBill_t183_1_0 z p1 x2 x5 = v_L_isBill_t273_1_0 z p1 x2 x5 from (if_pos c23).trans ((if_neg c24).trans ((if_neg c25).trans ((if_neg c26).trans ((if_neg c27).trans rfl))))) rfl ?_
              exact T_273_1_0 _ _  _ _ hP hS ls (lv_sub hl [1, 2, 3, 4, 5, 0] rfl)
            · skip
              refine lv_iconst (v := 1) hx hb dL_isBill_258 (by decide) ?_
              refine lv_goto (tgt := 263) hx hb dL_isBill_259 (by decide) ?_
              refine lv_icmp_ne (tgt := 270) hx hb dL_isBill_263 (by decide) (fun _ => ?_) (fun c => absurd c (by decide))
              refine lv_iconst (v := 0) hx hb dL_isBill_270 (by decide) ?_
              refine lv_istore (lv' := [(7, .int (0 : Int32)), (0, .ref (a 329)), (1, .int p1), (2, .int x2), (5, .int x5), (6, .int (0 : Int32))]) hx hb dL_isBill_271 hl (by decide) rfl (fun ls hl => ?_)
              refine q_eqIz (show v_L_isBill_t183_1_0 z p1 x2 x5 = v_L_isBill_t273_0_0 z p1 x2 x5 from (if_pos c23).trans ((if_neg c24).trans ((if_neg c25).trans ((if_neg c26).trans ((if_pos c27).trans rfl))))) rfl ?_
              exact T_273_0_0 _ _  _ _ hP hS ls (lv_sub hl [1, 2, 3, 4, 5, 0] rfl)
          · skip
            refine lv_iconst (v := 1) hx hb dL_isBill_243 (by decide) ?_
            refine lv_goto (tgt := 248) hx hb dL_isBill_244 (by decide) ?_
            refine lv_aload_n hx hb dL_isBill_248 rfl (lv_at hl 0 rfl) ?_
            refine lv_iload_n hx hb dL_isBill_249 rfl (lv_at hl 1 rfl) ?_
            refine lv_bipush (v := 7) hx hb dL_isBill_250 (by decide) ?_
            refine r_callI S hK hP (c_X5_billOf l G a hI z _ _ hR hJ) (r_cw S k_153 k_150 k_151 k_152 k_2 q_X5_billOf ⟨Nat.le_of_ble_eq_true rfl, Nat.le_of_ble_eq_true rfl⟩ rfl rfl) (g_recv hK hP (i := 329) (by omega) cC0 rfl) rfl hl.1 rfl (Nat.le_of_ble_eq_true rfl) dL_isBill_252 ⟨Nat.zero_le _, Nat.zero_le _⟩ hS (fun _ h => h) (fun H locs hP _ _ hS => ?_)
            have hP : cP G a z H := hP
            refine lv_if_ne (tgt := 262) hx hb dL_isBill_255 (by decide) (fun c28 => ?_) (fun c28 => ?_)
            · skip
              refine lv_iconst (v := 0) hx hb dL_isBill_262 (by decide) ?_
              refine lv_icmp_ne (tgt := 270) hx hb dL_isBill_263 (by decide) (fun _ => ?_) (fun c => absurd c (by decide))
              refine lv_iconst (v := 0) hx hb dL_isBill_270 (by decide) ?_
              refine lv_istore (lv' := [(7, .int (0 : Int32)), (0, .ref (a 329)), (1, .int p1), (2, .int x2), (5, .int x5), (6, .int (0 : Int32))]) hx hb dL_isBill_271 hl (by decide) rfl (fun ls hl => ?_)
              refine q_eqIz (show v_L_isBill_t183_1_0 z p1 x2 x5 = v_L_isBill_t273_0_0 z p1 x2 x5 from (if_pos c23).trans ((if_neg c24).trans ((if_neg c25).trans ((if_pos c26).trans ((if_neg c28).trans rfl))))) rfl ?_
              exact T_273_0_0 _ _  _ _ hP hS ls (lv_sub hl [1, 2, 3, 4, 5, 0] rfl)
            · skip
              refine lv_iconst (v := 1) hx hb dL_isBill_258 (by decide) ?_
              refine lv_goto (tgt := 263) hx hb dL_isBill_259 (by decide) ?_
              refine lv_icmp_ne (tgt := 270) hx hb dL_isBill_263 (by decide) (fun c => absurd (by decide) c) (fun _ => ?_)
              refine lv_iconst (v := 1) hx hb dL_isBill_266 (by decide) ?_
              refine lv_goto (tgt := 271) hx hb dL_isBill_267 (by decide) ?_
              refine lv_istore (lv' := [(7, .int (1 : Int32)), (0, .ref (a 329)), (1, .int p1), (2, .int x2), (5, .int x5), (6, .int (0 : Int32))]) hx hb dL_isBill_271 hl (by decide) rfl (fun ls hl => ?_)
              refine q_eqIz (show v_L_isBill_t183_1_0 z p1 x2 x5 = v_L_isBill_t273_1_0 z p1 x2 x5 from (if_pos c23).trans ((if_neg c24).trans ((if_neg c25).trans ((if_pos c26).trans ((if_pos c28).trans rfl))))) rfl ?_
              exact T_273_1_0 _ _  _ _ hP hS ls (lv_sub hl [1, 2, 3, 4, 5, 0] rfl)
  have T_183_1_1 : ∀ (x2 : Int32) (x5 : Int32) (H : Heap) (locs : List Loc), cP G a z H → va_S (gA 334 a) s.heap H locs → ∀ ls : Array Slot, lv_has ls 10 [(0, .ref (a 329)), (1, .int p1), (2, .int x2), (5, .int x5), (6, .int (1 : Int32)), (7, .int (1 : Int32))] → W p l e (rmK 4) s m args below meth c H locs 0 0 (MQ below (qcI G (gA 334 a) (cP G a z) (v_L_isBill_t183_1_1 z p1 x2 x5)) args s 0 0 (gA 334 a)) (F0 m 183 ls []) := by
    intro x2 x5 H locs hP hS ls hl
    refine lv_iload hx hb dL_isBill_183 (lv_at hl 5 rfl) ?_
    refine lv_if_eq (tgt := 270) hx hb dL_isBill_185 (by decide) (fun c => absurd c (by decide)) (fun _ => ?_)
    refine lv_aload_n hx hb dL_isBill_188 rfl (lv_at hl 0 rfl) ?_
    refine lv_iload_n hx hb dL_isBill_189 rfl (lv_at hl 1 rfl) ?_
    refine lv_bipush (v := 13) hx hb dL_isBill_190 (by decide) ?_
    refine r_callI S hK hP (c_X5_billOf l G a hI z _ _ hR hJ) (r_cw S k_153 k_150 k_151 k_152 k_2 q_X5_billOf ⟨Nat.le_of_ble_eq_true rfl, Nat.le_of_ble_eq_true rfl⟩ rfl rfl) (g_recv hK hP (i := 329) (by omega) cC0 rfl) rfl hl.1 rfl (Nat.le_of_ble_eq_true rfl) dL_isBill_192 ⟨Nat.zero_le _, Nat.zero_le _⟩ hS (fun _ h => h) (fun H locs hP _ _ hS => ?_)
    have hP : cP G a z H := hP
    refine lv_iload hx hb dL_isBill_195 (lv_at hl 4 rfl) ?_
    refine lv_if_eq (tgt := 204) hx hb dL_isBill_197 (by decide) (fun c => absurd c (by decide)) (fun _ => ?_)
    refine lv_iconst (v := 1) hx hb dL_isBill_200 (by decide) ?_
    refine lv_goto (tgt := 205) hx hb dL_isBill_201 (by decide) ?_
    refine lv_icmp_ne (tgt := 270) hx hb dL_isBill_205 (by decide) (fun c29 => ?_) (fun c29 => ?_)
    · skip
      refine lv_iconst (v := 0) hx hb dL_isBill_270 (by decide) ?_
      refine lv_istore (lv' := [(7, .int (0 : Int32)), (0, .ref (a 329)), (1, .int p1), (2, .int x2), (5, .int x5), (6, .int (1 : Int32))]) hx hb dL_isBill_271 hl (by decide) rfl (fun ls hl => ?_)
      refine q_eqIz (show v_L_isBill_t183_1_1 z p1 x2 x5 = v_L_isBill_t273_0_1 z p1 x2 x5 from (if_neg c29).trans rfl) rfl ?_
      exact T_273_0_1 _ _  _ _ hP hS ls (lv_sub hl [1, 2, 3, 4, 5, 0] rfl)
    · skip
      refine lv_aload_n hx hb dL_isBill_208 rfl (lv_at hl 0 rfl) ?_
      refine lv_iload_n hx hb dL_isBill_209 rfl (lv_at hl 1 rfl) ?_
      refine lv_iconst (v := 4) hx hb dL_isBill_210 (by decide) ?_
      refine r_callI S hK hP (c_X5_billOf l G a hI z _ _ hR hJ) (r_cw S k_153 k_150 k_151 k_152 k_2 q_X5_billOf ⟨Nat.le_of_ble_eq_true rfl, Nat.le_of_ble_eq_true rfl⟩ rfl rfl) (g_recv hK hP (i := 329) (by omega) cC0 rfl) rfl hl.1 rfl (Nat.le_of_ble_eq_true rfl) dL_isBill_211 ⟨Nat.zero_le _, Nat.zero_le _⟩ hS (fun _ h => h) (fun H locs hP _ _ hS => ?_)
      have hP : cP G a z H := hP
      refine lv_iload hx hb dL_isBill_214 (lv_at hl 3 rfl) ?_
      refine lv_icmp_gt (tgt := 270) hx hb dL_isBill_216 (by decide) (fun c30 => ?_) (fun c30 => ?_)
      · skip
        refine lv_iconst (v := 0) hx hb dL_isBill_270 (by decide) ?_
        refine lv_istore (lv' := [(7, .int (0 : Int32)), (0, .ref (a 329)), (1, .int p1), (2, .int x2), (5, .int x5), (6, .int (1 : Int32))]) hx hb dL_isBill_271 hl (by decide) rfl (fun ls hl => ?_)
        refine q_eqIz (show v_L_isBill_t183_1_1 z p1 x2 x5 = v_L_isBill_t273_0_1 z p1 x2 x5 from (if_pos c29).trans ((if_pos c30).trans rfl)) rfl ?_
        exact T_273_0_1 _ _  _ _ hP hS ls (lv_sub hl [1, 2, 3, 4, 5, 0] rfl)
      · skip
        refine lv_aload_n hx hb dL_isBill_219 rfl (lv_at hl 0 rfl) ?_
        refine lv_iload_n hx hb dL_isBill_220 rfl (lv_at hl 1 rfl) ?_
        refine lv_bipush (v := 12) hx hb dL_isBill_221 (by decide) ?_
        refine r_callI S hK hP (c_X5_billOf l G a hI z _ _ hR hJ) (r_cw S k_153 k_150 k_151 k_152 k_2 q_X5_billOf ⟨Nat.le_of_ble_eq_true rfl, Nat.le_of_ble_eq_true rfl⟩ rfl rfl) (g_recv hK hP (i := 329) (by omega) cC0 rfl) rfl hl.1 rfl (Nat.le_of_ble_eq_true rfl) dL_isBill_223 ⟨Nat.zero_le _, Nat.zero_le _⟩ hS (fun _ h => h) (fun H locs hP _ _ hS => ?_)
        have hP : cP G a z H := hP
        refine lv_iload hx hb dL_isBill_226 (lv_at hl 3 rfl) ?_
        refine lv_icmp_gt (tgt := 270) hx hb dL_isBill_228 (by decide) (fun c31 => ?_) (fun c31 => ?_)
        · skip
          refine lv_iconst (v := 0) hx hb dL_isBill_270 (by decide) ?_
          refine lv_istore (lv' := [(7, .int (0 : Int32)), (0, .ref (a 329)), (1, .int p1), (2, .int x2), (5, .int x5), (6, .int (1 : Int32))]) hx hb dL_isBill_271 hl (by decide) rfl (fun ls hl => ?_)
          refine q_eqIz (show v_L_isBill_t183_1_1 z p1 x2 x5 = v_L_isBill_t273_0_1 z p1 x2 x5 from (if_pos c29).trans ((if_neg c30).trans ((if_pos c31).trans rfl))) rfl ?_
          exact T_273_0_1 _ _  _ _ hP hS ls (lv_sub hl [1, 2, 3, 4, 5, 0] rfl)
        · skip
          refine lv_aload_n hx hb dL_isBill_231 rfl (lv_at hl 0 rfl) ?_
          refine lv_iload_n hx hb dL_isBill_232 rfl (lv_at hl 1 rfl) ?_
          refine lv_bipush (v := 12) hx hb dL_isBill_233 (by decide) ?_
          refine r_callI S hK hP (c_X5_billOf l G a hI z _ _ hR hJ) (r_cw S k_153 k_150 k_151 k_152 k_2 q_X5_billOf ⟨Nat.le_of_ble_eq_true rfl, Nat.le_of_ble_eq_true rfl⟩ rfl rfl) (g_recv hK hP (i := 329) (by omega) cC0 rfl) rfl hl.1 rfl (Nat.le_of_ble_eq_true rfl) dL_isBill_235 ⟨Nat.zero_le _, Nat.zero_le _⟩ hS (fun _ h => h) (fun H locs hP _ _ hS => ?_)
          have hP : cP G a z H := hP
          refine lv_bipush (v := -5) hx hb dL_isBill_238 (by decide) ?_
          refine lv_icmp_ne (tgt := 247) hx hb dL_isBill_240 (by decide) (fun c32 => ?_) (fun c32 => ?_)
          · skip
            refine lv_iconst (v := 0) hx hb dL_isBill_247 (by decide) ?_
            refine lv_aload_n hx hb dL_isBill_248 rfl (lv_at hl 0 rfl) ?_
            refine lv_iload_n hx hb dL_isBill_249 rfl (lv_at hl 1 rfl) ?_
            refine lv_bipush (v := 7) hx hb dL_isBill_250 (by decide) ?_
            refine r_callI S hK hP (c_X5_billOf l G a hI z _ _ hR hJ) (r_cw S k_153 k_150 k_151 k_152 k_2 q_X5_billOf ⟨Nat.le_of_ble_eq_true rfl, Nat.le_of_ble_eq_true rfl⟩ rfl rfl) (g_recv hK hP (i := 329) (by omega) cC0 rfl) rfl hl.1 rfl (Nat.le_of_ble_eq_true rfl) dL_isBill_252 ⟨Nat.zero_le _, Nat.zero_le _⟩ hS (fun _ h => h) (fun H locs hP _ _ hS => ?_)
            have hP : cP G a z H := hP
            refine lv_if_ne (tgt := 262) hx hb dL_isBill_255 (by decide) (fun c33 => ?_) (fun c33 => ?_)
            · skip
              refine lv_iconst (v := 0) hx hb dL_isBill_262 (by decide) ?_
              refine lv_icmp_ne (tgt := 270) hx hb dL_isBill_263 (by decide) (fun c => absurd (by decide) c) (fun _ => ?_)
              refine lv_iconst (v := 1) hx hb dL_isBill_266 (by decide) ?_
              refine lv_goto (tgt := 271) hx hb dL_isBill_267 (by decide) ?_
              refine lv_istore (lv' := [(7, .int (1 : Int32)), (0, .ref (a 329)), (1, .int p1), (2, .int x2), (5, .int x5), (6, .int (1 : Int32))]) hx hb dL_isBill_271 hl (by decide) rfl (fun ls hl => ?_)
              refine q_eqIz (show v_L_isBill_t183_1_1 z p1 x2 x5 = v_L_isBill_t273_1_1 z p1 x2 x5 from (if_pos c29).trans ((if_neg c30).trans ((if_neg c31).trans ((if_neg c32).trans ((if_neg c33).trans rfl))))) rfl ?_
              exact T_273_1_1 _ _  _ _ hP hS ls (lv_sub hl [1, 2, 3, 4, 5, 0] rfl)
            · skip
              refine lv_iconst (v := 1) hx hb dL_isBill_258 (by decide) ?_
              refine lv_goto (tgt := 263) hx hb dL_isBill_259 (by decide) ?_
              refine lv_icmp_ne (tgt := 270) hx hb dL_isBill_263 (by decide) (fun _ => ?_) (fun c => absurd c (by decide))
              refine lv_iconst (v := 0) hx hb dL_isBill_270 (by decide) ?_
              refine lv_istore (lv' := [(7, .int (0 : Int32)), (0, .ref (a 329)), (1, .int p1), (2, .int x2), (5, .int x5), (6, .int (1 : Int32))]) hx hb dL_isBill_271 hl (by decide) rfl (fun ls hl => ?_)
              refine q_eqIz (show v_L_isBill_t183_1_1 z p1 x2 x5 = v_L_isBill_t273_0_1 z p1 x2 x5 from (if_pos c29).trans ((if_neg c30).trans ((if_neg c31).trans ((if_neg c32).trans ((if_pos c33).trans rfl))))) rfl ?_
              exact T_273_0_1 _ _  _ _ hP hS ls (lv_sub hl [1, 2, 3, 4, 5, 0] rfl)
          · skip
            refine lv_iconst (v := 1) hx hb dL_isBill_243 (by decide) ?_
            refine lv_goto (tgt := 248) hx hb dL_isBill_244 (by decide) ?_
            refine lv_aload_n hx hb dL_isBill_248 rfl (lv_at hl 0 rfl) ?_
            refine lv_iload_n hx hb dL_isBill_249 rfl (lv_at hl 1 rfl) ?_
            refine lv_bipush (v := 7) hx hb dL_isBill_250 (by decide) ?_
            refine r_callI S hK hP (c_X5_billOf l G a hI z _ _ hR hJ) (r_cw S k_153 k_150 k_151 k_152 k_2 q_X5_billOf ⟨Nat.le_of_ble_eq_true rfl, Nat.le_of_ble_eq_true rfl⟩ rfl rfl) (g_recv hK hP (i := 329) (by omega) cC0 rfl) rfl hl.1 rfl (Nat.le_of_ble_eq_true rfl) dL_isBill_252 ⟨Nat.zero_le _, Nat.zero_le _⟩ hS (fun _ h => h) (fun H locs hP _ _ hS => ?_)
            have hP : cP G a z H := hP
            refine lv_if_ne (tgt := 262) hx hb dL_isBill_255 (by decide) (fun c34 => ?_) (fun c34 => ?_)
            · skip
              refine lv_iconst (v := 0) hx hb dL_isBill_262 (by decide) ?_
              refine lv_icmp_ne (tgt := 270) hx hb dL_isBill_263 (by decide) (fun _ => ?_) (fun c => absurd c (by decide))
              refine lv_iconst (v := 0) hx hb dL_isBill_270 (by decide) ?_
              refine lv_istore (lv' := [(7, .int (0 : Int32)), (0, .ref (a 329)), (1, .int p1), (2, .int x2), (5, .int x5), (6, .int (1 : Int32))]) hx hb dL_isBill_271 hl (by decide) rfl (fun ls hl => ?_)
              refine q_eqIz (show v_L_isBill_t183_1_1 z p1 x2 x5 = v_L_isBill_t273_0_1 z p1 x2 x5 from (if_pos c29).trans ((if_neg c30).trans ((if_neg c31).trans ((if_pos c32).trans ((if_neg c34).trans rfl))))) rfl ?_
              exact T_273_0_1 _ _  _ _ hP hS ls (lv_sub hl [1, 2, 3, 4, 5, 0] rfl)
            · skip
              refine lv_iconst (v := 1) hx hb dL_isBill_258 (by decide) ?_
              refine lv_goto (tgt := 263) hx hb dL_isBill_259 (by decide) ?_
              refine lv_icmp_ne (tgt := 270) hx hb dL_isBill_263 (by decide) (fun c => absurd (by decide) c) (fun _ => ?_)
              refine lv_iconst (v := 1) hx hb dL_isBill_266 (by decide) ?_
              refine lv_goto (tgt := 271) hx hb dL_isBill_267 (by decide) ?_
              refine lv_istore (lv' := [(7, .int (1 : Int32)), (0, .ref (a 329)), (1, .int p1), (2, .int x2), (5, .int x5), (6, .int (1 : Int32))]) hx hb dL_isBill_271 hl (by decide) rfl (fun ls hl => ?_)
              refine q_eqIz (show v_L_isBill_t183_1_1 z p1 x2 x5 = v_L_isBill_t273_1_1 z p1 x2 x5 from (if_pos c29).trans ((if_neg c30).trans ((if_neg c31).trans ((if_pos c32).trans ((if_pos c34).trans rfl))))) rfl ?_
              exact T_273_1_1 _ _  _ _ hP hS ls (lv_sub hl [1, 2, 3, 4, 5, 0] rfl)
  have T_139_1_0 : ∀ (x2 : Int32) (x5 : Int32) (H : Heap) (locs : List Loc), cP G a z H → va_S (gA 334 a) s.heap H locs → ∀ ls : Array Slot, lv_has ls 10 [(0, .ref (a 329)), (1, .int p1), (2, .int x2), (5, .int x5), (6, .int (0 : Int32)), (7, .int (1 : Int32))] → W p l e (rmK 4) s m args below meth c H locs 0 0 (MQ below (qcI G (gA 334 a) (cP G a z) (v_L_isBill_t139_1_0 z p1 x2 x5)) args s 0 0 (gA 334 a)) (F0 m 139 ls []) := by
    intro x2 x5 H locs hP hS ls hl
    refine lv_aload_n hx hb dL_isBill_139 rfl (lv_at hl 0 rfl) ?_
    refine lv_iload_n hx hb dL_isBill_140 rfl (lv_at hl 1 rfl) ?_
    refine lv_bipush (v := 11) hx hb dL_isBill_141 (by decide) ?_
    refine r_callI S hK hP (c_X5_billOf l G a hI z _ _ hR hJ) (r_cw S k_153 k_150 k_151 k_152 k_2 q_X5_billOf ⟨Nat.le_of_ble_eq_true rfl, Nat.le_of_ble_eq_true rfl⟩ rfl rfl) (g_recv hK hP (i := 329) (by omega) cC0 rfl) rfl hl.1 rfl (Nat.le_of_ble_eq_true rfl) dL_isBill_143 ⟨Nat.zero_le _, Nat.zero_le _⟩ hS (fun _ h => h) (fun H locs hP _ _ hS => ?_)
    have hP : cP G a z H := hP
    refine lv_if_lt (tgt := 180) hx hb dL_isBill_146 (by decide) (fun c15 => ?_) (fun c15 => ?_)
    · skip
      refine lv_iconst (v := 0) hx hb dL_isBill_180 (by decide) ?_
      refine lv_istore (lv' := [(7, .int (0 : Int32)), (0, .ref (a 329)), (1, .int p1), (2, .int x2), (5, .int x5), (6, .int (0 : Int32))]) hx hb dL_isBill_181 hl (by decide) rfl (fun ls hl => ?_)
      refine q_eqIz (show v_L_isBill_t139_1_0 z p1 x2 x5 = v_L_isBill_t183_0_0 z p1 x2 x5 from (if_pos c15).trans rfl) rfl ?_
      exact T_183_0_0 _ _  _ _ hP hS ls (lv_sub hl [1, 2, 3, 4, 5, 0] rfl)
    · skip
      refine lv_aload_n hx hb dL_isBill_149 rfl (lv_at hl 0 rfl) ?_
      refine lv_iload_n hx hb dL_isBill_150 rfl (lv_at hl 1 rfl) ?_
      refine lv_bipush (v := 11) hx hb dL_isBill_151 (by decide) ?_
      refine r_callI S hK hP (c_X5_billOf l G a hI z _ _ hR hJ) (r_cw S k_153 k_150 k_151 k_152 k_2 q_X5_billOf ⟨Nat.le_of_ble_eq_true rfl, Nat.le_of_ble_eq_true rfl⟩ rfl rfl) (g_recv hK hP (i := 329) (by omega) cC0 rfl) rfl hl.1 rfl (Nat.le_of_ble_eq_true rfl) dL_isBill_153 ⟨Nat.zero_le _, Nat.zero_le _⟩ hS (fun _ h => h) (fun H locs hP _ _ hS => ?_)
      have hP : cP G a z H := hP
      refine lv_iconst (v := 3) hx hb dL_isBill_156 (by decide) ?_
      refine lv_icmp_gt (tgt := 180) hx hb dL_isBill_157 (by decide) (fun c16 => ?_) (fun c16 => ?_)
      · skip
        refine lv_iconst (v := 0) hx hb dL_isBill_180 (by decide) ?_
        refine lv_istore (lv' := [(7, .int (0 : Int32)), (0, .ref (a 329)), (1, .int p1), (2, .int x2), (5, .int x5), (6, .int (0 : Int32))]) hx hb dL_isBill_181 hl (by decide) rfl (fun ls hl => ?_)
        refine q_eqIz (show v_L_isBill_t139_1_0 z p1 x2 x5 = v_L_isBill_t183_0_0 z p1 x2 x5 from (if_neg c15).trans ((if_pos c16).trans rfl)) rfl ?_
        exact T_183_0_0 _ _  _ _ hP hS ls (lv_sub hl [1, 2, 3, 4, 5, 0] rfl)
      · skip
        refine lv_iload_n hx hb dL_isBill_160 rfl (lv_at hl 2 rfl) ?_
        refine lv_iconst (v := 2) hx hb dL_isBill_161 (by decide) ?_
        refine lv_icmp_ne (tgt := 176) hx hb dL_isBill_162 (by decide) (fun c17 => ?_) (fun c17 => ?_)
        · skip
          refine lv_iconst (v := 1) hx hb dL_isBill_176 (by decide) ?_
          refine lv_goto (tgt := 181) hx hb dL_isBill_177 (by decide) ?_
          refine lv_istore (lv' := [(7, .int (1 : Int32)), (0, .ref (a 329)), (1, .int p1), (2, .int x2), (5, .int x5), (6, .int (0 : Int32))]) hx hb dL_isBill_181 hl (by decide) rfl (fun ls hl => ?_)
          refine q_eqIz (show v_L_isBill_t139_1_0 z p1 x2 x5 = v_L_isBill_t183_1_0 z p1 x2 x5 from (if_neg c15).trans ((if_neg c16).trans ((if_neg c17).trans rfl))) rfl ?_
          exact T_183_1_0 _ _  _ _ hP hS ls (lv_sub hl [1, 2, 3, 4, 5, 0] rfl)
        · skip
          refine lv_aload_n hx hb dL_isBill_165 rfl (lv_at hl 0 rfl) ?_
          refine lv_iload_n hx hb dL_isBill_166 rfl (lv_at hl 1 rfl) ?_
          refine lv_bipush (v := 11) hx hb dL_isBill_167 (by decide) ?_
          refine r_callI S hK hP (c_X5_billOf l G a hI z _ _ hR hJ) (r_cw S k_153 k_150 k_151 k_152 k_2 q_X5_billOf ⟨Nat.le_of_ble_eq_true rfl, Nat.le_of_ble_eq_true rfl⟩ rfl rfl) (g_recv hK hP (i := 329) (by omega) cC0 rfl) rfl hl.1 rfl (Nat.le_of_ble_eq_true rfl) dL_isBill_169 ⟨Nat.zero_le _, Nat.zero_le _⟩ hS (fun _ h => h) (fun H locs hP _ _ hS => ?_)
          have hP : cP G a z H := hP
          refine lv_iconst (v := 3) hx hb dL_isBill_172 (by decide) ?_
          refine lv_icmp_ne (tgt := 180) hx hb dL_isBill_173 (by decide) (fun c18 => ?_) (fun c18 => ?_)
          · skip
            refine lv_iconst (v := 0) hx hb dL_isBill_180 (by decide) ?_
            refine lv_istore (lv' := [(7, .int (0 : Int32)), (0, .ref (a 329)), (1, .int p1), (2, .int x2), (5, .int x5), (6, .int (0 : Int32))]) hx hb dL_isBill_181 hl (by decide) rfl (fun ls hl => ?_)
            refine q_eqIz (show v_L_isBill_t139_1_0 z p1 x2 x5 = v_L_isBill_t183_0_0 z p1 x2 x5 from (if_neg c15).trans ((if_neg c16).trans ((if_pos c17).trans ((if_neg c18).trans rfl)))) rfl ?_
            exact T_183_0_0 _ _  _ _ hP hS ls (lv_sub hl [1, 2, 3, 4, 5, 0] rfl)
          · skip
            refine lv_iconst (v := 1) hx hb dL_isBill_176 (by decide) ?_
            refine lv_goto (tgt := 181) hx hb dL_isBill_177 (by decide) ?_
            refine lv_istore (lv' := [(7, .int (1 : Int32)), (0, .ref (a 329)), (1, .int p1), (2, .int x2), (5, .int x5), (6, .int (0 : Int32))]) hx hb dL_isBill_181 hl (by decide) rfl (fun ls hl => ?_)
            refine q_eqIz (show v_L_isBill_t139_1_0 z p1 x2 x5 = v_L_isBill_t183_1_0 z p1 x2 x5 from (if_neg c15).trans ((if_neg c16).trans ((if_pos c17).trans ((if_pos c18).trans rfl)))) rfl ?_
            exact T_183_1_0 _ _  _ _ hP hS ls (lv_sub hl [1, 2, 3, 4, 5, 0] rfl)
  have T_139_1_1 : ∀ (x2 : Int32) (x5 : Int32) (H : Heap) (locs : List Loc), cP G a z H → va_S (gA 334 a) s.heap H locs → ∀ ls : Array Slot, lv_has ls 10 [(0, .ref (a 329)), (1, .int p1), (2, .int x2), (5, .int x5), (6, .int (1 : Int32)), (7, .int (1 : Int32))] → W p l e (rmK 4) s m args below meth c H locs 0 0 (MQ below (qcI G (gA 334 a) (cP G a z) (v_L_isBill_t139_1_1 z p1 x2 x5)) args s 0 0 (gA 334 a)) (F0 m 139 ls []) := by
    intro x2 x5 H locs hP hS ls hl
    refine lv_aload_n hx hb dL_isBill_139 rfl (lv_at hl 0 rfl) ?_
    refine lv_iload_n hx hb dL_isBill_140 rfl (lv_at hl 1 rfl) ?_
    refine lv_bipush (v := 11) hx hb dL_isBill_141 (by decide) ?_
    refine r_callI S hK hP (c_X5_billOf l G a hI z _ _ hR hJ) (r_cw S k_153 k_150 k_151 k_152 k_2 q_X5_billOf ⟨Nat.le_of_ble_eq_true rfl, Nat.le_of_ble_eq_true rfl⟩ rfl rfl) (g_recv hK hP (i := 329) (by omega) cC0 rfl) rfl hl.1 rfl (Nat.le_of_ble_eq_true rfl) dL_isBill_143 ⟨Nat.zero_le _, Nat.zero_le _⟩ hS (fun _ h => h) (fun H locs hP _ _ hS => ?_)
    have hP : cP G a z H := hP
    refine lv_if_lt (tgt := 180) hx hb dL_isBill_146 (by decide) (fun c19 => ?_) (fun c19 => ?_)
    · skip
      refine lv_iconst (v := 0) hx hb dL_isBill_180 (by decide) ?_
      refine lv_istore (lv' := [(7, .int (0 : Int32)), (0, .ref (a 329)), (1, .int p1), (2, .int x2), (5, .int x5), (6, .int (1 : Int32))]) hx hb dL_isBill_181 hl (by decide) rfl (fun ls hl => ?_)
      refine q_eqIz (show v_L_isBill_t139_1_1 z p1 x2 x5 = v_L_isBill_t183_0_1 z p1 x2 x5 from (if_pos c19).trans rfl) rfl ?_
      exact T_183_0_1 _ _  _ _ hP hS ls (lv_sub hl [1, 2, 3, 4, 5, 0] rfl)
    · skip
      refine lv_aload_n hx hb dL_isBill_149 rfl (lv_at hl 0 rfl) ?_
      refine lv_iload_n hx hb dL_isBill_150 rfl (lv_at hl 1 rfl) ?_
      refine lv_bipush (v := 11) hx hb dL_isBill_151 (by decide) ?_
      refine r_callI S hK hP (c_X5_billOf l G a hI z _ _ hR hJ) (r_cw S k_153 k_150 k_151 k_152 k_2 q_X5_billOf ⟨Nat.le_of_ble_eq_true rfl, Nat.le_of_ble_eq_true rfl⟩ rfl rfl) (g_recv hK hP (i := 329) (by omega) cC0 rfl) rfl hl.1 rfl (Nat.le_of_ble_eq_true rfl) dL_isBill_153 ⟨Nat.zero_le _, Nat.zero_le _⟩ hS (fun _ h => h) (fun H locs hP _ _ hS => ?_)
      have hP : cP G a z H := hP
      refine lv_iconst (v := 3) hx hb dL_isBill_156 (by decide) ?_
      refine lv_icmp_gt (tgt := 180) hx hb dL_isBill_157 (by decide) (fun c20 => ?_) (fun c20 => ?_)
      · skip
        refine lv_iconst (v := 0) hx hb dL_isBill_180 (by decide) ?_
        refine lv_istore (lv' := [(7, .int (0 : Int32)), (0, .ref (a 329)), (1, .int p1), (2, .int x2), (5, .int x5), (6, .int (1 : Int32))]) hx hb dL_isBill_181 hl (by decide) rfl (fun ls hl => ?_)
        refine q_eqIz (show v_L_isBill_t139_1_1 z p1 x2 x5 = v_L_isBill_t183_0_1 z p1 x2 x5 from (if_neg c19).trans ((if_pos c20).trans rfl)) rfl ?_
        exact T_183_0_1 _ _  _ _ hP hS ls (lv_sub hl [1, 2, 3, 4, 5, 0] rfl)
      · skip
        refine lv_iload_n hx hb dL_isBill_160 rfl (lv_at hl 2 rfl) ?_
        refine lv_iconst (v := 2) hx hb dL_isBill_161 (by decide) ?_
        refine lv_icmp_ne (tgt := 176) hx hb dL_isBill_162 (by decide) (fun c21 => ?_) (fun c21 => ?_)
        · skip
          refine lv_iconst (v := 1) hx hb dL_isBill_176 (by decide) ?_
          refine lv_goto (tgt := 181) hx hb dL_isBill_177 (by decide) ?_
          refine lv_istore (lv' := [(7, .int (1 : Int32)), (0, .ref (a 329)), (1, .int p1), (2, .int x2), (5, .int x5), (6, .int (1 : Int32))]) hx hb dL_isBill_181 hl (by decide) rfl (fun ls hl => ?_)
          refine q_eqIz (show v_L_isBill_t139_1_1 z p1 x2 x5 = v_L_isBill_t183_1_1 z p1 x2 x5 from (if_neg c19).trans ((if_neg c20).trans ((if_neg c21).trans rfl))) rfl ?_
          exact T_183_1_1 _ _  _ _ hP hS ls (lv_sub hl [1, 2, 3, 4, 5, 0] rfl)
        · skip
          refine lv_aload_n hx hb dL_isBill_165 rfl (lv_at hl 0 rfl) ?_
          refine lv_iload_n hx hb dL_isBill_166 rfl (lv_at hl 1 rfl) ?_
          refine lv_bipush (v := 11) hx hb dL_isBill_167 (by decide) ?_
          refine r_callI S hK hP (c_X5_billOf l G a hI z _ _ hR hJ) (r_cw S k_153 k_150 k_151 k_152 k_2 q_X5_billOf ⟨Nat.le_of_ble_eq_true rfl, Nat.le_of_ble_eq_true rfl⟩ rfl rfl) (g_recv hK hP (i := 329) (by omega) cC0 rfl) rfl hl.1 rfl (Nat.le_of_ble_eq_true rfl) dL_isBill_169 ⟨Nat.zero_le _, Nat.zero_le _⟩ hS (fun _ h => h) (fun H locs hP _ _ hS => ?_)
          have hP : cP G a z H := hP
          refine lv_iconst (v := 3) hx hb dL_isBill_172 (by decide) ?_
          refine lv_icmp_ne (tgt := 180) hx hb dL_isBill_173 (by decide) (fun c22 => ?_) (fun c22 => ?_)
          · skip
            refine lv_iconst (v := 0) hx hb dL_isBill_180 (by decide) ?_
            refine lv_istore (lv' := [(7, .int (0 : Int32)), (0, .ref (a 329)), (1, .int p1), (2, .int x2), (5, .int x5), (6, .int (1 : Int32))]) hx hb dL_isBill_181 hl (by decide) rfl (fun ls hl => ?_)
            refine q_eqIz (show v_L_isBill_t139_1_1 z p1 x2 x5 = v_L_isBill_t183_0_1 z p1 x2 x5 from (if_neg c19).trans ((if_neg c20).trans ((if_pos c21).trans ((if_neg c22).trans rfl)))) rfl ?_
            exact T_183_0_1 _ _  _ _ hP hS ls (lv_sub hl [1, 2, 3, 4, 5, 0] rfl)
          · skip
            refine lv_iconst (v := 1) hx hb dL_isBill_176 (by decide) ?_
            refine lv_goto (tgt := 181) hx hb dL_isBill_177 (by decide) ?_
            refine lv_istore (lv' := [(7, .int (1 : Int32)), (0, .ref (a 329)), (1, .int p1), (2, .int x2), (5, .int x5), (6, .int (1 : Int32))]) hx hb dL_isBill_181 hl (by decide) rfl (fun ls hl => ?_)
            refine q_eqIz (show v_L_isBill_t139_1_1 z p1 x2 x5 = v_L_isBill_t183_1_1 z p1 x2 x5 from (if_neg c19).trans ((if_neg c20).trans ((if_pos c21).trans ((if_pos c22).trans rfl)))) rfl ?_
            exact T_183_1_1 _ _  _ _ hP hS ls (lv_sub hl [1, 2, 3, 4, 5, 0] rfl)
  have T_108_0_0 : ∀ (x2 : Int32) (x3 : Int32) (x5 : Int32) (H : Heap) (locs : List Loc), cP G a z H → va_S (gA 334 a) s.heap H locs → ∀ ls : Array Slot, lv_has ls 10 [(0, .ref (a 329)), (1, .int p1), (2, .int x2), (3, .int x3), (5, .int x5), (6, .int (0 : Int32)), (7, .int (0 : Int32))] → W p l e (rmK 4) s m args below meth c H locs 0 0 (MQ below (qcI G (gA 334 a) (cP G a z) (v_L_isBill_t108_0_0 z p1 x2 x3 x5)) args s 0 0 (gA 334 a)) (F0 m 108 ls []) := by
    intro x2 x3 x5 H locs hP hS ls hl
    refine lv_iload hx hb dL_isBill_108 (lv_at hl 6 rfl) ?_
    refine lv_if_eq (tgt := 180) hx hb dL_isBill_110 (by decide) (fun _ => ?_) (fun c => absurd (by decide) c)
    refine lv_iconst (v := 0) hx hb dL_isBill_180 (by decide) ?_
    refine lv_istore (lv' := [(7, .int (0 : Int32)), (0, .ref (a 329)), (1, .int p1), (2, .int x2), (3, .int x3), (5, .int x5), (6, .int (0 : Int32))]) hx hb dL_isBill_181 hl (by decide) rfl (fun ls hl => ?_)
    refine q_eqIz (show v_L_isBill_t108_0_0 z p1 x2 x3 x5 = v_L_isBill_t183_0_0 z p1 x2 x5 from rfl) rfl ?_
    exact T_183_0_0 _ _  _ _ hP hS ls (lv_sub hl [1, 2, 3, 5, 6, 0] rfl)
  have T_108_0_1 : ∀ (x2 : Int32) (x3 : Int32) (x5 : Int32) (H : Heap) (locs : List Loc), cP G a z H → va_S (gA 334 a) s.heap H locs → ∀ ls : Array Slot, lv_has ls 10 [(0, .ref (a 329)), (1, .int p1), (2, .int x2), (3, .int x3), (5, .int x5), (6, .int (1 : Int32)), (7, .int (0 : Int32))] → W p l e (rmK 4) s m args below meth c H locs 0 0 (MQ below (qcI G (gA 334 a) (cP G a z) (v_L_isBill_t108_0_1 z p1 x2 x3 x5)) args s 0 0 (gA 334 a)) (F0 m 108 ls []) := by
    intro x2 x3 x5 H locs hP hS ls hl
    refine lv_iload hx hb dL_isBill_108 (lv_at hl 6 rfl) ?_
    refine lv_if_eq (tgt := 180) hx hb dL_isBill_110 (by decide) (fun _ => ?_) (fun c => absurd (by decide) c)
    refine lv_iconst (v := 0) hx hb dL_isBill_180 (by decide) ?_
    refine lv_istore (lv' := [(7, .int (0 : Int32)), (0, .ref (a 329)), (1, .int p1), (2, .int x2), (3, .int x3), (5, .int x5), (6, .int (1 : Int32))]) hx hb dL_isBill_181 hl (by decide) rfl (fun ls hl => ?_)
    refine q_eqIz (show v_L_isBill_t108_0_1 z p1 x2 x3 x5 = v_L_isBill_t183_0_1 z p1 x2 x5 from rfl) rfl ?_
    exact T_183_0_1 _ _  _ _ hP hS ls (lv_sub hl [1, 2, 3, 5, 6, 0] rfl)
  have T_108_1_0 : ∀ (x2 : Int32) (x3 : Int32) (x5 : Int32) (H : Heap) (locs : List Loc), cP G a z H → va_S (gA 334 a) s.heap H locs → ∀ ls : Array Slot, lv_has ls 10 [(0, .ref (a 329)), (1, .int p1), (2, .int x2), (3, .int x3), (5, .int x5), (6, .int (0 : Int32)), (7, .int (1 : Int32))] → W p l e (rmK 4) s m args below meth c H locs 0 0 (MQ below (qcI G (gA 334 a) (cP G a z) (v_L_isBill_t108_1_0 z p1 x2 x3 x5)) args s 0 0 (gA 334 a)) (F0 m 108 ls []) := by
    intro x2 x3 x5 H locs hP hS ls hl
    refine lv_iload hx hb dL_isBill_108 (lv_at hl 6 rfl) ?_
    refine lv_if_eq (tgt := 180) hx hb dL_isBill_110 (by decide) (fun c => absurd c (by decide)) (fun _ => ?_)
    refine lv_iload_n hx hb dL_isBill_113 rfl (lv_at hl 3 rfl) ?_
    refine lv_if_lt (tgt := 180) hx hb dL_isBill_114 (by decide) (fun c7 => ?_) (fun c7 => ?_)
    · skip
      refine lv_iconst (v := 0) hx hb dL_isBill_180 (by decide) ?_
      refine lv_istore (lv' := [(7, .int (0 : Int32)), (0, .ref (a 329)), (1, .int p1), (2, .int x2), (3, .int x3), (5, .int x5), (6, .int (0 : Int32))]) hx hb dL_isBill_181 hl (by decide) rfl (fun ls hl => ?_)
      refine q_eqIz (show v_L_isBill_t108_1_0 z p1 x2 x3 x5 = v_L_isBill_t183_0_0 z p1 x2 x5 from (if_pos c7).trans rfl) rfl ?_
      exact T_183_0_0 _ _  _ _ hP hS ls (lv_sub hl [1, 2, 3, 5, 6, 0] rfl)
    · skip
      refine lv_iload_n hx hb dL_isBill_117 rfl (lv_at hl 2 rfl) ?_
      refine lv_iconst (v := 1) hx hb dL_isBill_118 (by decide) ?_
      refine lv_icmp_ne (tgt := 126) hx hb dL_isBill_119 (by decide) (fun c8 => ?_) (fun c8 => ?_)
      · skip
        refine lv_iconst (v := 0) hx hb dL_isBill_126 (by decide) ?_
        refine lv_iload_n hx hb dL_isBill_127 rfl (lv_at hl 3 rfl) ?_
        refine lv_if_ne (tgt := 135) hx hb dL_isBill_128 (by decide) (fun c9 => ?_) (fun c9 => ?_)
        · skip
          refine lv_iconst (v := 0) hx hb dL_isBill_135 (by decide) ?_
          refine lv_icmp_ne (tgt := 180) hx hb dL_isBill_136 (by decide) (fun c => absurd (by decide) c) (fun _ => ?_)
          refine q_eqIz (show v_L_isBill_t108_1_0 z p1 x2 x3 x5 = v_L_isBill_t139_1_0 z p1 x2 x5 from (if_neg c7).trans ((if_neg c8).trans ((if_neg c9).trans rfl))) rfl ?_
          exact T_139_1_0 _ _  _ _ hP hS ls (lv_sub hl [0, 1, 2, 4, 5, 6] rfl)
        · skip
          refine lv_iconst (v := 1) hx hb dL_isBill_131 (by decide) ?_
          refine lv_goto (tgt := 136) hx hb dL_isBill_132 (by decide) ?_
          refine lv_icmp_ne (tgt := 180) hx hb dL_isBill_136 (by decide) (fun _ => ?_) (fun c => absurd c (by decide))
          refine lv_iconst (v := 0) hx hb dL_isBill_180 (by decide) ?_
          refine lv_istore (lv' := [(7, .int (0 : Int32)), (0, .ref (a 329)), (1, .int p1), (2, .int x2), (3, .int x3), (5, .int x5), (6, .int (0 : Int32))]) hx hb dL_isBill_181 hl (by decide) rfl (fun ls hl => ?_)
          refine q_eqIz (show v_L_isBill_t108_1_0 z p1 x2 x3 x5 = v_L_isBill_t183_0_0 z p1 x2 x5 from (if_neg c7).trans ((if_neg c8).trans ((if_pos c9).trans rfl))) rfl ?_
          exact T_183_0_0 _ _  _ _ hP hS ls (lv_sub hl [1, 2, 3, 5, 6, 0] rfl)
      · skip
        refine lv_iconst (v := 1) hx hb dL_isBill_122 (by decide) ?_
        refine lv_goto (tgt := 127) hx hb dL_isBill_123 (by decide) ?_
        refine lv_iload_n hx hb dL_isBill_127 rfl (lv_at hl 3 rfl) ?_
        refine lv_if_ne (tgt := 135) hx hb dL_isBill_128 (by decide) (fun c10 => ?_) (fun c10 => ?_)
        · skip
          refine lv_iconst (v := 0) hx hb dL_isBill_135 (by decide) ?_
          refine lv_icmp_ne (tgt := 180) hx hb dL_isBill_136 (by decide) (fun _ => ?_) (fun c => absurd c (by decide))
          refine lv_iconst (v := 0) hx hb dL_isBill_180 (by decide) ?_
          refine lv_istore (lv' := [(7, .int (0 : Int32)), (0, .ref (a 329)), (1, .int p1), (2, .int x2), (3, .int x3), (5, .int x5), (6, .int (0 : Int32))]) hx hb dL_isBill_181 hl (by decide) rfl (fun ls hl => ?_)
          refine q_eqIz (show v_L_isBill_t108_1_0 z p1 x2 x3 x5 = v_L_isBill_t183_0_0 z p1 x2 x5 from (if_neg c7).trans ((if_pos c8).trans ((if_neg c10).trans rfl))) rfl ?_
          exact T_183_0_0 _ _  _ _ hP hS ls (lv_sub hl [1, 2, 3, 5, 6, 0] rfl)
        · skip
          refine lv_iconst (v := 1) hx hb dL_isBill_131 (by decide) ?_
          refine lv_goto (tgt := 136) hx hb dL_isBill_132 (by decide) ?_
          refine lv_icmp_ne (tgt := 180) hx hb dL_isBill_136 (by decide) (fun c => absurd (by decide) c) (fun _ => ?_)
          refine q_eqIz (show v_L_isBill_t108_1_0 z p1 x2 x3 x5 = v_L_isBill_t139_1_0 z p1 x2 x5 from (if_neg c7).trans ((if_pos c8).trans ((if_pos c10).trans rfl))) rfl ?_
          exact T_139_1_0 _ _  _ _ hP hS ls (lv_sub hl [0, 1, 2, 4, 5, 6] rfl)
  have T_108_1_1 : ∀ (x2 : Int32) (x3 : Int32) (x5 : Int32) (H : Heap) (locs : List Loc), cP G a z H → va_S (gA 334 a) s.heap H locs → ∀ ls : Array Slot, lv_has ls 10 [(0, .ref (a 329)), (1, .int p1), (2, .int x2), (3, .int x3), (5, .int x5), (6, .int (1 : Int32)), (7, .int (1 : Int32))] → W p l e (rmK 4) s m args below meth c H locs 0 0 (MQ below (qcI G (gA 334 a) (cP G a z) (v_L_isBill_t108_1_1 z p1 x2 x3 x5)) args s 0 0 (gA 334 a)) (F0 m 108 ls []) := by
    intro x2 x3 x5 H locs hP hS ls hl
    refine lv_iload hx hb dL_isBill_108 (lv_at hl 6 rfl) ?_
    refine lv_if_eq (tgt := 180) hx hb dL_isBill_110 (by decide) (fun c => absurd c (by decide)) (fun _ => ?_)
    refine lv_iload_n hx hb dL_isBill_113 rfl (lv_at hl 3 rfl) ?_
    refine lv_if_lt (tgt := 180) hx hb dL_isBill_114 (by decide) (fun c11 => ?_) (fun c11 => ?_)
    · skip
      refine lv_iconst (v := 0) hx hb dL_isBill_180 (by decide) ?_
      refine lv_istore (lv' := [(7, .int (0 : Int32)), (0, .ref (a 329)), (1, .int p1), (2, .int x2), (3, .int x3), (5, .int x5), (6, .int (1 : Int32))]) hx hb dL_isBill_181 hl (by decide) rfl (fun ls hl => ?_)
      refine q_eqIz (show v_L_isBill_t108_1_1 z p1 x2 x3 x5 = v_L_isBill_t183_0_1 z p1 x2 x5 from (if_pos c11).trans rfl) rfl ?_
      exact T_183_0_1 _ _  _ _ hP hS ls (lv_sub hl [1, 2, 3, 5, 6, 0] rfl)
    · skip
      refine lv_iload_n hx hb dL_isBill_117 rfl (lv_at hl 2 rfl) ?_
      refine lv_iconst (v := 1) hx hb dL_isBill_118 (by decide) ?_
      refine lv_icmp_ne (tgt := 126) hx hb dL_isBill_119 (by decide) (fun c12 => ?_) (fun c12 => ?_)
      · skip
        refine lv_iconst (v := 0) hx hb dL_isBill_126 (by decide) ?_
        refine lv_iload_n hx hb dL_isBill_127 rfl (lv_at hl 3 rfl) ?_
        refine lv_if_ne (tgt := 135) hx hb dL_isBill_128 (by decide) (fun c13 => ?_) (fun c13 => ?_)
        · skip
          refine lv_iconst (v := 0) hx hb dL_isBill_135 (by decide) ?_
          refine lv_icmp_ne (tgt := 180) hx hb dL_isBill_136 (by decide) (fun c => absurd (by decide) c) (fun _ => ?_)
          refine q_eqIz (show v_L_isBill_t108_1_1 z p1 x2 x3 x5 = v_L_isBill_t139_1_1 z p1 x2 x5 from (if_neg c11).trans ((if_neg c12).trans ((if_neg c13).trans rfl))) rfl ?_
          exact T_139_1_1 _ _  _ _ hP hS ls (lv_sub hl [0, 1, 2, 4, 5, 6] rfl)
        · skip
          refine lv_iconst (v := 1) hx hb dL_isBill_131 (by decide) ?_
          refine lv_goto (tgt := 136) hx hb dL_isBill_132 (by decide) ?_
          refine lv_icmp_ne (tgt := 180) hx hb dL_isBill_136 (by decide) (fun _ => ?_) (fun c => absurd c (by decide))
          refine lv_iconst (v := 0) hx hb dL_isBill_180 (by decide) ?_
          refine lv_istore (lv' := [(7, .int (0 : Int32)), (0, .ref (a 329)), (1, .int p1), (2, .int x2), (3, .int x3), (5, .int x5), (6, .int (1 : Int32))]) hx hb dL_isBill_181 hl (by decide) rfl (fun ls hl => ?_)
          refine q_eqIz (show v_L_isBill_t108_1_1 z p1 x2 x3 x5 = v_L_isBill_t183_0_1 z p1 x2 x5 from (if_neg c11).trans ((if_neg c12).trans ((if_pos c13).trans rfl))) rfl ?_
          exact T_183_0_1 _ _  _ _ hP hS ls (lv_sub hl [1, 2, 3, 5, 6, 0] rfl)
      · skip
        refine lv_iconst (v := 1) hx hb dL_isBill_122 (by decide) ?_
        refine lv_goto (tgt := 127) hx hb dL_isBill_123 (by decide) ?_
        refine lv_iload_n hx hb dL_isBill_127 rfl (lv_at hl 3 rfl) ?_
        refine lv_if_ne (tgt := 135) hx hb dL_isBill_128 (by decide) (fun c14 => ?_) (fun c14 => ?_)
        · skip
          refine lv_iconst (v := 0) hx hb dL_isBill_135 (by decide) ?_
          refine lv_icmp_ne (tgt := 180) hx hb dL_isBill_136 (by decide) (fun _ => ?_) (fun c => absurd c (by decide))
          refine lv_iconst (v := 0) hx hb dL_isBill_180 (by decide) ?_
          refine lv_istore (lv' := [(7, .int (0 : Int32)), (0, .ref (a 329)), (1, .int p1), (2, .int x2), (3, .int x3), (5, .int x5), (6, .int (1 : Int32))]) hx hb dL_isBill_181 hl (by decide) rfl (fun ls hl => ?_)
          refine q_eqIz (show v_L_isBill_t108_1_1 z p1 x2 x3 x5 = v_L_isBill_t183_0_1 z p1 x2 x5 from (if_neg c11).trans ((if_pos c12).trans ((if_neg c14).trans rfl))) rfl ?_
          exact T_183_0_1 _ _  _ _ hP hS ls (lv_sub hl [1, 2, 3, 5, 6, 0] rfl)
        · skip
          refine lv_iconst (v := 1) hx hb dL_isBill_131 (by decide) ?_
          refine lv_goto (tgt := 136) hx hb dL_isBill_132 (by decide) ?_
          refine lv_icmp_ne (tgt := 180) hx hb dL_isBill_136 (by decide) (fun c => absurd (by decide) c) (fun _ => ?_)
          refine q_eqIz (show v_L_isBill_t108_1_1 z p1 x2 x3 x5 = v_L_isBill_t139_1_1 z p1 x2 x5 from (if_neg c11).trans ((if_pos c12).trans ((if_pos c14).trans rfl))) rfl ?_
          exact T_139_1_1 _ _  _ _ hP hS ls (lv_sub hl [0, 1, 2, 4, 5, 6] rfl)
  have T_53_0 : ∀ (x2 : Int32) (x3 : Int32) (x4 : Int32) (x5 : Int32) (H : Heap) (locs : List Loc), cP G a z H → va_S (gA 334 a) s.heap H locs → ∀ ls : Array Slot, lv_has ls 10 [(0, .ref (a 329)), (1, .int p1), (2, .int x2), (3, .int x3), (4, .int x4), (5, .int x5), (6, .int (0 : Int32))] → W p l e (rmK 4) s m args below meth c H locs 0 0 (MQ below (qcI G (gA 334 a) (cP G a z) (v_L_isBill_t53_0 z p1 x2 x3 x4 x5)) args s 0 0 (gA 334 a)) (F0 m 53 ls []) := by
    intro x2 x3 x4 x5 H locs hP hS ls hl
    refine lv_iload hx hb dL_isBill_53 (lv_at hl 4 rfl) ?_
    refine lv_aload_n hx hb dL_isBill_55 rfl (lv_at hl 0 rfl) ?_
    refine lv_iload_n hx hb dL_isBill_56 rfl (lv_at hl 1 rfl) ?_
    refine lv_iconst (v := 1) hx hb dL_isBill_57 (by decide) ?_
    refine r_callI S hK hP (c_X5_billOf l G a hI z _ _ hR hJ) (r_cw S k_153 k_150 k_151 k_152 k_2 q_X5_billOf ⟨Nat.le_of_ble_eq_true rfl, Nat.le_of_ble_eq_true rfl⟩ rfl rfl) (g_recv hK hP (i := 329) (by omega) cC0 rfl) rfl hl.1 rfl (Nat.le_of_ble_eq_true rfl) dL_isBill_58 ⟨Nat.zero_le _, Nat.zero_le _⟩ hS (fun _ h => h) (fun H locs hP _ _ hS => ?_)
    have hP : cP G a z H := hP
    refine lv_aload_n hx hb dL_isBill_61 rfl (lv_at hl 0 rfl) ?_
    refine lv_iload_n hx hb dL_isBill_62 rfl (lv_at hl 1 rfl) ?_
    refine lv_iconst (v := 2) hx hb dL_isBill_63 (by decide) ?_
    refine r_callI S hK hP (c_X5_billOf l G a hI z _ _ hR hJ) (r_cw S k_153 k_150 k_151 k_152 k_2 q_X5_billOf ⟨Nat.le_of_ble_eq_true rfl, Nat.le_of_ble_eq_true rfl⟩ rfl rfl) (g_recv hK hP (i := 329) (by omega) cC0 rfl) rfl hl.1 rfl (Nat.le_of_ble_eq_true rfl) dL_isBill_64 ⟨Nat.zero_le _, Nat.zero_le _⟩ hS (fun _ h => h) (fun H locs hP _ _ hS => ?_)
    have hP : cP G a z H := hP
    refine lv_iadd hx hb dL_isBill_67 ?_
    refine lv_icmp_ne (tgt := 105) hx hb dL_isBill_68 (by decide) (fun c3 => ?_) (fun c3 => ?_)
    · skip
      refine lv_iconst (v := 0) hx hb dL_isBill_105 (by decide) ?_
      refine lv_istore (lv' := [(7, .int (0 : Int32)), (0, .ref (a 329)), (1, .int p1), (2, .int x2), (3, .int x3), (4, .int x4), (5, .int x5), (6, .int (0 : Int32))]) hx hb dL_isBill_106 hl (by decide) rfl (fun ls hl => ?_)
      refine q_eqIz (show v_L_isBill_t53_0 z p1 x2 x3 x4 x5 = v_L_isBill_t108_0_0 z p1 x2 x3 x5 from (if_neg c3).trans rfl) rfl ?_
      exact T_108_0_0 _ _ _  _ _ hP hS ls (lv_sub hl [1, 2, 3, 4, 6, 7, 0] rfl)
    · skip
      refine lv_iload_n hx hb dL_isBill_71 rfl (lv_at hl 3 rfl) ?_
      refine lv_iload hx hb dL_isBill_72 (lv_at hl 4 rfl) ?_
      refine lv_aload_n hx hb dL_isBill_74 rfl (lv_at hl 0 rfl) ?_
      refine lv_iload_n hx hb dL_isBill_75 rfl (lv_at hl 1 rfl) ?_
      refine lv_bipush (v := 9) hx hb dL_isBill_76 (by decide) ?_
      refine r_callI S hK hP (c_X5_billOf l G a hI z _ _ hR hJ) (r_cw S k_153 k_150 k_151 k_152 k_2 q_X5_billOf ⟨Nat.le_of_ble_eq_true rfl, Nat.le_of_ble_eq_true rfl⟩ rfl rfl) (g_recv hK hP (i := 329) (by omega) cC0 rfl) rfl hl.1 rfl (Nat.le_of_ble_eq_true rfl) dL_isBill_78 ⟨Nat.zero_le _, Nat.zero_le _⟩ hS (fun _ h => h) (fun H locs hP _ _ hS => ?_)
      have hP : cP G a z H := hP
      refine lv_iadd hx hb dL_isBill_81 ?_
      refine lv_aload_n hx hb dL_isBill_82 rfl (lv_at hl 0 rfl) ?_
      refine lv_iload_n hx hb dL_isBill_83 rfl (lv_at hl 1 rfl) ?_
      refine lv_bipush (v := 7) hx hb dL_isBill_84 (by decide) ?_
      refine r_callI S hK hP (c_X5_billOf l G a hI z _ _ hR hJ) (r_cw S k_153 k_150 k_151 k_152 k_2 q_X5_billOf ⟨Nat.le_of_ble_eq_true rfl, Nat.le_of_ble_eq_true rfl⟩ rfl rfl) (g_recv hK hP (i := 329) (by omega) cC0 rfl) rfl hl.1 rfl (Nat.le_of_ble_eq_true rfl) dL_isBill_86 ⟨Nat.zero_le _, Nat.zero_le _⟩ hS (fun _ h => h) (fun H locs hP _ _ hS => ?_)
      have hP : cP G a z H := hP
      refine lv_isub hx hb dL_isBill_89 ?_
      refine lv_aload_n hx hb dL_isBill_90 rfl (lv_at hl 0 rfl) ?_
      refine lv_iload_n hx hb dL_isBill_91 rfl (lv_at hl 1 rfl) ?_
      refine lv_bipush (v := 8) hx hb dL_isBill_92 (by decide) ?_
      refine r_callI S hK hP (c_X5_billOf l G a hI z _ _ hR hJ) (r_cw S k_153 k_150 k_151 k_152 k_2 q_X5_billOf ⟨Nat.le_of_ble_eq_true rfl, Nat.le_of_ble_eq_true rfl⟩ rfl rfl) (g_recv hK hP (i := 329) (by omega) cC0 rfl) rfl hl.1 rfl (Nat.le_of_ble_eq_true rfl) dL_isBill_94 ⟨Nat.zero_le _, Nat.zero_le _⟩ hS (fun _ h => h) (fun H locs hP _ _ hS => ?_)
      have hP : cP G a z H := hP
      refine lv_isub hx hb dL_isBill_97 ?_
      refine lv_icmp_ne (tgt := 105) hx hb dL_isBill_98 (by decide) (fun c4 => ?_) (fun c4 => ?_)
      · skip
        refine lv_iconst (v := 0) hx hb dL_isBill_105 (by decide) ?_
        refine lv_istore (lv' := [(7, .int (0 : Int32)), (0, .ref (a 329)), (1, .int p1), (2, .int x2), (3, .int x3), (4, .int x4), (5, .int x5), (6, .int (0 : Int32))]) hx hb dL_isBill_106 hl (by decide) rfl (fun ls hl => ?_)
        refine q_eqIz (show v_L_isBill_t53_0 z p1 x2 x3 x4 x5 = v_L_isBill_t108_0_0 z p1 x2 x3 x5 from (if_pos c3).trans ((if_neg c4).trans rfl)) rfl ?_
        exact T_108_0_0 _ _ _  _ _ hP hS ls (lv_sub hl [1, 2, 3, 4, 6, 7, 0] rfl)
      · skip
        refine lv_iconst (v := 1) hx hb dL_isBill_101 (by decide) ?_
        refine lv_goto (tgt := 106) hx hb dL_isBill_102 (by decide) ?_
        refine lv_istore (lv' := [(7, .int (1 : Int32)), (0, .ref (a 329)), (1, .int p1), (2, .int x2), (3, .int x3), (4, .int x4), (5, .int x5), (6, .int (0 : Int32))]) hx hb dL_isBill_106 hl (by decide) rfl (fun ls hl => ?_)
        refine q_eqIz (show v_L_isBill_t53_0 z p1 x2 x3 x4 x5 = v_L_isBill_t108_1_0 z p1 x2 x3 x5 from (if_pos c3).trans ((if_pos c4).trans rfl)) rfl ?_
        exact T_108_1_0 _ _ _  _ _ hP hS ls (lv_sub hl [1, 2, 3, 4, 6, 7, 0] rfl)
  have T_53_1 : ∀ (x2 : Int32) (x3 : Int32) (x4 : Int32) (x5 : Int32) (H : Heap) (locs : List Loc), cP G a z H → va_S (gA 334 a) s.heap H locs → ∀ ls : Array Slot, lv_has ls 10 [(0, .ref (a 329)), (1, .int p1), (2, .int x2), (3, .int x3), (4, .int x4), (5, .int x5), (6, .int (1 : Int32))] → W p l e (rmK 4) s m args below meth c H locs 0 0 (MQ below (qcI G (gA 334 a) (cP G a z) (v_L_isBill_t53_1 z p1 x2 x3 x4 x5)) args s 0 0 (gA 334 a)) (F0 m 53 ls []) := by
    intro x2 x3 x4 x5 H locs hP hS ls hl
    refine lv_iload hx hb dL_isBill_53 (lv_at hl 4 rfl) ?_
    refine lv_aload_n hx hb dL_isBill_55 rfl (lv_at hl 0 rfl) ?_
    refine lv_iload_n hx hb dL_isBill_56 rfl (lv_at hl 1 rfl) ?_
    refine lv_iconst (v := 1) hx hb dL_isBill_57 (by decide) ?_
    refine r_callI S hK hP (c_X5_billOf l G a hI z _ _ hR hJ) (r_cw S k_153 k_150 k_151 k_152 k_2 q_X5_billOf ⟨Nat.le_of_ble_eq_true rfl, Nat.le_of_ble_eq_true rfl⟩ rfl rfl) (g_recv hK hP (i := 329) (by omega) cC0 rfl) rfl hl.1 rfl (Nat.le_of_ble_eq_true rfl) dL_isBill_58 ⟨Nat.zero_le _, Nat.zero_le _⟩ hS (fun _ h => h) (fun H locs hP _ _ hS => ?_)
    have hP : cP G a z H := hP
    refine lv_aload_n hx hb dL_isBill_61 rfl (lv_at hl 0 rfl) ?_
    refine lv_iload_n hx hb dL_isBill_62 rfl (lv_at hl 1 rfl) ?_
    refine lv_iconst (v := 2) hx hb dL_isBill_63 (by decide) ?_
    refine r_callI S hK hP (c_X5_billOf l G a hI z _ _ hR hJ) (r_cw S k_153 k_150 k_151 k_152 k_2 q_X5_billOf ⟨Nat.le_of_ble_eq_true rfl, Nat.le_of_ble_eq_true rfl⟩ rfl rfl) (g_recv hK hP (i := 329) (by omega) cC0 rfl) rfl hl.1 rfl (Nat.le_of_ble_eq_true rfl) dL_isBill_64 ⟨Nat.zero_le _, Nat.zero_le _⟩ hS (fun _ h => h) (fun H locs hP _ _ hS => ?_)
    have hP : cP G a z H := hP
    refine lv_iadd hx hb dL_isBill_67 ?_
    refine lv_icmp_ne (tgt := 105) hx hb dL_isBill_68 (by decide) (fun c5 => ?_) (fun c5 => ?_)
    · skip
      refine lv_iconst (v := 0) hx hb dL_isBill_105 (by decide) ?_
      refine lv_istore (lv' := [(7, .int (0 : Int32)), (0, .ref (a 329)), (1, .int p1), (2, .int x2), (3, .int x3), (4, .int x4), (5, .int x5), (6, .int (1 : Int32))]) hx hb dL_isBill_106 hl (by decide) rfl (fun ls hl => ?_)
      refine q_eqIz (show v_L_isBill_t53_1 z p1 x2 x3 x4 x5 = v_L_isBill_t108_0_1 z p1 x2 x3 x5 from (if_neg c5).trans rfl) rfl ?_
      exact T_108_0_1 _ _ _  _ _ hP hS ls (lv_sub hl [1, 2, 3, 4, 6, 7, 0] rfl)
    · skip
      refine lv_iload_n hx hb dL_isBill_71 rfl (lv_at hl 3 rfl) ?_
      refine lv_iload hx hb dL_isBill_72 (lv_at hl 4 rfl) ?_
      refine lv_aload_n hx hb dL_isBill_74 rfl (lv_at hl 0 rfl) ?_
      refine lv_iload_n hx hb dL_isBill_75 rfl (lv_at hl 1 rfl) ?_
      refine lv_bipush (v := 9) hx hb dL_isBill_76 (by decide) ?_
      refine r_callI S hK hP (c_X5_billOf l G a hI z _ _ hR hJ) (r_cw S k_153 k_150 k_151 k_152 k_2 q_X5_billOf ⟨Nat.le_of_ble_eq_true rfl, Nat.le_of_ble_eq_true rfl⟩ rfl rfl) (g_recv hK hP (i := 329) (by omega) cC0 rfl) rfl hl.1 rfl (Nat.le_of_ble_eq_true rfl) dL_isBill_78 ⟨Nat.zero_le _, Nat.zero_le _⟩ hS (fun _ h => h) (fun H locs hP _ _ hS => ?_)
      have hP : cP G a z H := hP
      refine lv_iadd hx hb dL_isBill_81 ?_
      refine lv_aload_n hx hb dL_isBill_82 rfl (lv_at hl 0 rfl) ?_
      refine lv_iload_n hx hb dL_isBill_83 rfl (lv_at hl 1 rfl) ?_
      refine lv_bipush (v := 7) hx hb dL_isBill_84 (by decide) ?_
      refine r_callI S hK hP (c_X5_billOf l G a hI z _ _ hR hJ) (r_cw S k_153 k_150 k_151 k_152 k_2 q_X5_billOf ⟨Nat.le_of_ble_eq_true rfl, Nat.le_of_ble_eq_true rfl⟩ rfl rfl) (g_recv hK hP (i := 329) (by omega) cC0 rfl) rfl hl.1 rfl (Nat.le_of_ble_eq_true rfl) dL_isBill_86 ⟨Nat.zero_le _, Nat.zero_le _⟩ hS (fun _ h => h) (fun H locs hP _ _ hS => ?_)
      have hP : cP G a z H := hP
      refine lv_isub hx hb dL_isBill_89 ?_
      refine lv_aload_n hx hb dL_isBill_90 rfl (lv_at hl 0 rfl) ?_
      refine lv_iload_n hx hb dL_isBill_91 rfl (lv_at hl 1 rfl) ?_
      refine lv_bipush (v := 8) hx hb dL_isBill_92 (by decide) ?_
      refine r_callI S hK hP (c_X5_billOf l G a hI z _ _ hR hJ) (r_cw S k_153 k_150 k_151 k_152 k_2 q_X5_billOf ⟨Nat.le_of_ble_eq_true rfl, Nat.le_of_ble_eq_true rfl⟩ rfl rfl) (g_recv hK hP (i := 329) (by omega) cC0 rfl) rfl hl.1 rfl (Nat.le_of_ble_eq_true rfl) dL_isBill_94 ⟨Nat.zero_le _, Nat.zero_le _⟩ hS (fun _ h => h) (fun H locs hP _ _ hS => ?_)
      have hP : cP G a z H := hP
      refine lv_isub hx hb dL_isBill_97 ?_
      refine lv_icmp_ne (tgt := 105) hx hb dL_isBill_98 (by decide) (fun c6 => ?_) (fun c6 => ?_)
      · skip
        refine lv_iconst (v := 0) hx hb dL_isBill_105 (by decide) ?_
        refine lv_istore (lv' := [(7, .int (0 : Int32)), (0, .ref (a 329)), (1, .int p1), (2, .int x2), (3, .int x3), (4, .int x4), (5, .int x5), (6, .int (1 : Int32))]) hx hb dL_isBill_106 hl (by decide) rfl (fun ls hl => ?_)
        refine q_eqIz (show v_L_isBill_t53_1 z p1 x2 x3 x4 x5 = v_L_isBill_t108_0_1 z p1 x2 x3 x5 from (if_pos c5).trans ((if_neg c6).trans rfl)) rfl ?_
        exact T_108_0_1 _ _ _  _ _ hP hS ls (lv_sub hl [1, 2, 3, 4, 6, 7, 0] rfl)
      · skip
        refine lv_iconst (v := 1) hx hb dL_isBill_101 (by decide) ?_
        refine lv_goto (tgt := 106) hx hb dL_isBill_102 (by decide) ?_
        refine lv_istore (lv' := [(7, .int (1 : Int32)), (0, .ref (a 329)), (1, .int p1), (2, .int x2), (3, .int x3), (4, .int x4), (5, .int x5), (6, .int (1 : Int32))]) hx hb dL_isBill_106 hl (by decide) rfl (fun ls hl => ?_)
        refine q_eqIz (show v_L_isBill_t53_1 z p1 x2 x3 x4 x5 = v_L_isBill_t108_1_1 z p1 x2 x3 x5 from (if_pos c5).trans ((if_pos c6).trans rfl)) rfl ?_
        exact T_108_1_1 _ _ _  _ _ hP hS ls (lv_sub hl [1, 2, 3, 4, 6, 7, 0] rfl)
  refine lv_aload_n hx hb dL_isBill_0 rfl (lv_at hl 0 rfl) ?_
  refine lv_iload_n hx hb dL_isBill_1 rfl (lv_at hl 1 rfl) ?_
  refine lv_bipush (v := 6) hx hb dL_isBill_2 (by decide) ?_
  refine r_callI S hK hP (c_X5_billOf l G a hI z _ _ hR hJ) (r_cw S k_153 k_150 k_151 k_152 k_2 q_X5_billOf ⟨Nat.le_of_ble_eq_true rfl, Nat.le_of_ble_eq_true rfl⟩ rfl rfl) (g_recv hK hP (i := 329) (by omega) cC0 rfl) rfl hl.1 rfl (Nat.le_of_ble_eq_true rfl) dL_isBill_4 ⟨Nat.zero_le _, Nat.zero_le _⟩ hS (fun _ h => h) (fun H locs hP _ _ hS => ?_)
  have hP : cP G a z H := hP
  refine lv_istore_n (lv' := [(2, .int (v_X5_billOf z p1 (6 : Int32))), (0, .ref (a 329)), (1, .int p1)]) hx hb dL_isBill_7 rfl hl (by decide) rfl (fun ls hl => ?_)
  refine lv_aload_n hx hb dL_isBill_8 rfl (lv_at hl 1 rfl) ?_
  refine lv_iload_n hx hb dL_isBill_9 rfl (lv_at hl 2 rfl) ?_
  refine lv_bipush (v := 10) hx hb dL_isBill_10 (by decide) ?_
  refine r_callI S hK hP (c_X5_billOf l G a hI z _ _ hR hJ) (r_cw S k_153 k_150 k_151 k_152 k_2 q_X5_billOf ⟨Nat.le_of_ble_eq_true rfl, Nat.le_of_ble_eq_true rfl⟩ rfl rfl) (g_recv hK hP (i := 329) (by omega) cC0 rfl) rfl hl.1 rfl (Nat.le_of_ble_eq_true rfl) dL_isBill_12 ⟨Nat.zero_le _, Nat.zero_le _⟩ hS (fun _ h => h) (fun H locs hP _ _ hS => ?_)
  have hP : cP G a z H := hP
  refine lv_istore_n (lv' := [(3, .int (v_X5_billOf z p1 (10 : Int32))), (2, .int (v_X5_billOf z p1 (6 : Int32))), (0, .ref (a 329)), (1, .int p1)]) hx hb dL_isBill_15 rfl hl (by decide) rfl (fun ls hl => ?_)
  refine lv_aload_n hx hb dL_isBill_16 rfl (lv_at hl 2 rfl) ?_
  refine lv_iload_n hx hb dL_isBill_17 rfl (lv_at hl 3 rfl) ?_
  refine lv_iconst (v := 3) hx hb dL_isBill_18 (by decide) ?_
  refine r_callI S hK hP (c_X5_billOf l G a hI z _ _ hR hJ) (r_cw S k_153 k_150 k_151 k_152 k_2 q_X5_billOf ⟨Nat.le_of_ble_eq_true rfl, Nat.le_of_ble_eq_true rfl⟩ rfl rfl) (g_recv hK hP (i := 329) (by omega) cC0 rfl) rfl hl.1 rfl (Nat.le_of_ble_eq_true rfl) dL_isBill_19 ⟨Nat.zero_le _, Nat.zero_le _⟩ hS (fun _ h => h) (fun H locs hP _ _ hS => ?_)
  have hP : cP G a z H := hP
  refine lv_istore (lv' := [(4, .int (v_X5_billOf z p1 (3 : Int32))), (3, .int (v_X5_billOf z p1 (10 : Int32))), (2, .int (v_X5_billOf z p1 (6 : Int32))), (0, .ref (a 329)), (1, .int p1)]) hx hb dL_isBill_22 hl (by decide) rfl (fun ls hl => ?_)
  refine lv_aload_n hx hb dL_isBill_24 rfl (lv_at hl 3 rfl) ?_
  refine lv_iconst (v := 0) hx hb dL_isBill_25 (by decide) ?_
  refine r_callI S hK hP (c_X5_count l G a hI z _ hR hJ) (r_cw S k_67 k_64 k_65 k_66 k_2 q_X5_count ⟨Nat.le_of_ble_eq_true rfl, Nat.le_of_ble_eq_true rfl⟩ rfl rfl) (g_recv hK hP (i := 329) (by omega) cC0 rfl) rfl hl.1 rfl (Nat.le_of_ble_eq_true rfl) dL_isBill_26 ⟨Nat.zero_le _, Nat.zero_le _⟩ hS (fun _ h => h) (fun H locs hP _ _ hS => ?_)
  have hP : cP G a z H := hP
  refine lv_istore (lv' := [(5, .int (v_X5_count z (0 : Int32))), (4, .int (v_X5_billOf z p1 (3 : Int32))), (3, .int (v_X5_billOf z p1 (10 : Int32))), (2, .int (v_X5_billOf z p1 (6 : Int32))), (0, .ref (a 329)), (1, .int p1)]) hx hb dL_isBill_29 hl (by decide) rfl (fun ls hl => ?_)
  refine lv_iload_n hx hb dL_isBill_31 rfl (lv_at hl 3 rfl) ?_
  refine lv_if_ne (tgt := 50) hx hb dL_isBill_32 (by decide) (fun c1 => ?_) (fun c1 => ?_)
  · skip
    refine lv_iconst (v := 0) hx hb dL_isBill_50 (by decide) ?_
    refine lv_istore (lv' := [(6, .int (0 : Int32)), (5, .int (v_X5_count z (0 : Int32))), (4, .int (v_X5_billOf z p1 (3 : Int32))), (3, .int (v_X5_billOf z p1 (10 : Int32))), (2, .int (v_X5_billOf z p1 (6 : Int32))), (0, .ref (a 329)), (1, .int p1)]) hx hb dL_isBill_51 hl (by decide) rfl (fun ls hl => ?_)
    refine q_eqIz (show v_L_isBill z p1 = v_L_isBill_t53_0 z p1 (v_X5_billOf z p1 (6 : Int32)) (v_X5_billOf z p1 (10 : Int32)) (v_X5_billOf z p1 (3 : Int32)) (v_X5_count z (0 : Int32)) from (if_neg c1).trans rfl) rfl ?_
    exact T_53_0 _ _ _ _  _ _ hP hS ls (lv_sub hl [5, 6, 4, 3, 2, 1, 0] rfl)
  · skip
    refine lv_iload hx hb dL_isBill_35 (lv_at hl 0 rfl) ?_
    refine lv_aload_n hx hb dL_isBill_37 rfl (lv_at hl 4 rfl) ?_
    refine lv_iload_n hx hb dL_isBill_38 rfl (lv_at hl 5 rfl) ?_
    refine lv_iconst (v := 5) hx hb dL_isBill_39 (by decide) ?_
    refine r_callI S hK hP (c_X5_billOf l G a hI z _ _ hR hJ) (r_cw S k_153 k_150 k_151 k_152 k_2 q_X5_billOf ⟨Nat.le_of_ble_eq_true rfl, Nat.le_of_ble_eq_true rfl⟩ rfl rfl) (g_recv hK hP (i := 329) (by omega) cC0 rfl) rfl hl.1 rfl (Nat.le_of_ble_eq_true rfl) dL_isBill_40 ⟨Nat.zero_le _, Nat.zero_le _⟩ hS (fun _ h => h) (fun H locs hP _ _ hS => ?_)
    have hP : cP G a z H := hP
    refine lv_icmp_le (tgt := 50) hx hb dL_isBill_43 (by decide) (fun c2 => ?_) (fun c2 => ?_)
    · skip
      refine lv_iconst (v := 0) hx hb dL_isBill_50 (by decide) ?_
      refine lv_istore (lv' := [(6, .int (0 : Int32)), (5, .int (v_X5_count z (0 : Int32))), (4, .int (v_X5_billOf z p1 (3 : Int32))), (3, .int (v_X5_billOf z p1 (10 : Int32))), (2, .int (v_X5_billOf z p1 (6 : Int32))), (0, .ref (a 329)), (1, .int p1)]) hx hb dL_isBill_51 hl (by decide) rfl (fun ls hl => ?_)
      refine q_eqIz (show v_L_isBill z p1 = v_L_isBill_t53_0 z p1 (v_X5_billOf z p1 (6 : Int32)) (v_X5_billOf z p1 (10 : Int32)) (v_X5_billOf z p1 (3 : Int32)) (v_X5_count z (0 : Int32)) from (if_pos c1).trans ((if_pos c2).trans rfl)) rfl ?_
      exact T_53_0 _ _ _ _  _ _ hP hS ls (lv_sub hl [5, 6, 4, 3, 2, 1, 0] rfl)
    · skip
      refine lv_iconst (v := 1) hx hb dL_isBill_46 (by decide) ?_
      refine lv_goto (tgt := 51) hx hb dL_isBill_47 (by decide) ?_
      refine lv_istore (lv' := [(6, .int (1 : Int32)), (5, .int (v_X5_count z (0 : Int32))), (4, .int (v_X5_billOf z p1 (3 : Int32))), (3, .int (v_X5_billOf z p1 (10 : Int32))), (2, .int (v_X5_billOf z p1 (6 : Int32))), (0, .ref (a 329)), (1, .int p1)]) hx hb dL_isBill_51 hl (by decide) rfl (fun ls hl => ?_)
      refine q_eqIz (show v_L_isBill z p1 = v_L_isBill_t53_1 z p1 (v_X5_billOf z p1 (6 : Int32)) (v_X5_billOf z p1 (10 : Int32)) (v_X5_billOf z p1 (3 : Int32)) (v_X5_count z (0 : Int32)) from (if_pos c1).trans ((if_neg c2).trans rfl)) rfl ?_
      exact T_53_1 _ _ _ _  _ _ hP hS ls (lv_sub hl [5, 6, 4, 3, 2, 1, 0] rfl)
