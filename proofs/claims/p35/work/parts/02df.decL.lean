theorem dL_study_73 : decode cL_study 73 = .ok (.if_icmp .ne 7, 3) := by decide +kernel
theorem dL_study_76 : decode cL_study 76 = .ok (.iconst 1, 1) := by decide +kernel
theorem dL_study_77 : decode cL_study 77 = .ok (.goto 4, 3) := by decide +kernel
theorem dL_study_80 : decode cL_study 80 = .ok (.iconst 0, 1) := by decide +kernel
theorem dL_study_81 : decode cL_study 81 = .ok (.istore 5, 2) := by decide +kernel
theorem dL_study_83 : decode cL_study 83 = .ok (.aload_n 0, 1) := by decide +kernel
theorem dL_study_84 : decode cL_study 84 = .ok (.iconst 2, 1) := by decide +kernel
theorem dL_study_85 : decode cL_study 85 = .ok (.iconst 3, 1) := by decide +kernel
theorem dL_study_86 : decode cL_study 86 = .ok (.iconst 0, 1) := by decide +kernel
theorem dL_study_87 : decode cL_study 87 = .ok (.iconst 0, 1) := by decide +kernel
theorem dL_study_88 : decode cL_study 88 = .ok (.invokestatic 196, 3) := by decide +kernel
theorem dL_study_91 : decode cL_study 91 = .ok (.istore 6, 2) := by decide +kernel
theorem dL_study_93 : decode cL_study 93 = .ok (.aload_n 0, 1) := by decide +kernel
theorem dL_study_94 : decode cL_study 94 = .ok (.iconst 2, 1) := by decide +kernel
theorem dL_study_95 : decode cL_study 95 = .ok (.iconst 4, 1) := by decide +kernel
theorem dL_study_96 : decode cL_study 96 = .ok (.iconst 0, 1) := by decide +kernel
theorem dL_study_97 : decode cL_study 97 = .ok (.iconst 0, 1) := by decide +kernel
theorem dL_study_98 : decode cL_study 98 = .ok (.invokestatic 196, 3) := by decide +kernel
theorem dL_study_101 : decode cL_study 101 = .ok (.istore 7, 2) := by decide +kernel
theorem dL_study_103 : decode cL_study 103 = .ok (.iload 5, 2) := by decide +kernel
theorem dL_study_105 : decode cL_study 105 = .ok (.ifCond .eq 37, 3) := by decide +kernel
theorem dL_study_108 : decode cL_study 108 = .ok (.aload_n 0, 1) := by decide +kernel
theorem dL_study_109 : decode cL_study 109 = .ok (.bipush 17, 2) := by decide +kernel
theorem dL_study_111 : decode cL_study 111 = .ok (.iconst 0, 1) := by decide +kernel
theorem dL_study_112 : decode cL_study 112 = .ok (.iconst 0, 1) := by decide +kernel
theorem dL_study_113 : decode cL_study 113 = .ok (.iconst 0, 1) := by decide +kernel
theorem dL_study_114 : decode cL_study 114 = .ok (.invokestatic 196, 3) := by decide +kernel
theorem dL_study_117 : decode cL_study 117 = .ok (.invokestatic 242, 3) := by decide +kernel
theorem dL_study_120 : decode cL_study 120 = .ok (.ifCond .ne 22, 3) := by decide +kernel
theorem dL_study_123 : decode cL_study 123 = .ok (.aload_n 1, 1) := by decide +kernel
theorem dL_study_124 : decode cL_study 124 = .ok (.bipush 17, 2) := by decide +kernel
theorem dL_study_126 : decode cL_study 126 = .ok (.iconst 0, 1) := by decide +kernel
theorem dL_study_127 : decode cL_study 127 = .ok (.iconst 0, 1) := by decide +kernel
theorem dL_study_128 : decode cL_study 128 = .ok (.iconst 0, 1) := by decide +kernel
theorem dL_study_129 : decode cL_study 129 = .ok (.invokestatic 196, 3) := by decide +kernel
theorem dL_study_132 : decode cL_study 132 = .ok (.invokestatic 242, 3) := by decide +kernel
theorem dL_study_135 : decode cL_study 135 = .ok (.ifCond .ne 7, 3) := by decide +kernel
theorem dL_study_138 : decode cL_study 138 = .ok (.iconst 1, 1) := by decide +kernel
theorem dL_study_139 : decode cL_study 139 = .ok (.goto 4, 3) := by decide +kernel
theorem dL_study_142 : decode cL_study 142 = .ok (.iconst 0, 1) := by decide +kernel
theorem dL_study_143 : decode cL_study 143 = .ok (.istore 5, 2) := by decide +kernel
theorem dL_study_145 : decode cL_study 145 = .ok (.aload_n 0, 1) := by decide +kernel
theorem dL_study_146 : decode cL_study 146 = .ok (.bipush 13, 2) := by decide +kernel
theorem dL_study_148 : decode cL_study 148 = .ok (.iload_n 2, 1) := by decide +kernel
theorem dL_study_149 : decode cL_study 149 = .ok (.iload_n 3, 1) := by decide +kernel
theorem dL_study_150 : decode cL_study 150 = .ok (.iconst 0, 1) := by decide +kernel
theorem dL_study_151 : decode cL_study 151 = .ok (.invokestatic 196, 3) := by decide +kernel
theorem dL_study_154 : decode cL_study 154 = .ok (.istore 8, 2) := by decide +kernel
theorem dL_study_156 : decode cL_study 156 = .ok (.iload 5, 2) := by decide +kernel
theorem dL_study_158 : decode cL_study 158 = .ok (.ifCond .eq 21, 3) := by decide +kernel
theorem dL_study_161 : decode cL_study 161 = .ok (.aload_n 1, 1) := by decide +kernel
theorem dL_study_162 : decode cL_study 162 = .ok (.bipush 13, 2) := by decide +kernel
theorem dL_study_164 : decode cL_study 164 = .ok (.iload_n 2, 1) := by decide +kernel
theorem dL_study_165 : decode cL_study 165 = .ok (.iload_n 3, 1) := by decide +kernel
theorem dL_study_166 : decode cL_study 166 = .ok (.iconst 0, 1) := by decide +kernel
theorem dL_study_167 : decode cL_study 167 = .ok (.invokestatic 196, 3) := by decide +kernel
theorem dL_study_170 : decode cL_study 170 = .ok (.iload 8, 2) := by decide +kernel
theorem dL_study_172 : decode cL_study 172 = .ok (.if_icmp .ne 7, 3) := by decide +kernel
theorem dL_study_175 : decode cL_study 175 = .ok (.iconst 1, 1) := by decide +kernel
theorem dL_study_176 : decode cL_study 176 = .ok (.goto 4, 3) := by decide +kernel
theorem dL_study_179 : decode cL_study 179 = .ok (.iconst 0, 1) := by decide +kernel
theorem dL_study_180 : decode cL_study 180 = .ok (.istore 5, 2) := by decide +kernel
theorem dL_study_182 : decode cL_study 182 = .ok (.iload 8, 2) := by decide +kernel
theorem dL_study_184 : decode cL_study 184 = .ok (.invokestatic 242, 3) := by decide +kernel
theorem dL_study_187 : decode cL_study 187 = .ok (.ifCond .ne 99, 3) := by decide +kernel
theorem dL_study_190 : decode cL_study 190 = .ok (.iload 5, 2) := by decide +kernel
theorem dL_study_192 : decode cL_study 192 = .ok (.ifCond .eq 94, 3) := by decide +kernel
theorem dL_study_195 : decode cL_study 195 = .ok (.aload_n 0, 1) := by decide +kernel
theorem dL_study_196 : decode cL_study 196 = .ok (.iconst 2, 1) := by decide +kernel
theorem dL_study_197 : decode cL_study 197 = .ok (.iconst 3, 1) := by decide +kernel
theorem dL_study_198 : decode cL_study 198 = .ok (.iconst 0, 1) := by decide +kernel
theorem dL_study_199 : decode cL_study 199 = .ok (.iconst 0, 1) := by decide +kernel
theorem dL_study_200 : decode cL_study 200 = .ok (.invokestatic 196, 3) := by decide +kernel
theorem dL_study_203 : decode cL_study 203 = .ok (.istore 9, 2) := by decide +kernel
theorem dL_study_205 : decode cL_study 205 = .ok (.aload_n 0, 1) := by decide +kernel
theorem dL_study_206 : decode cL_study 206 = .ok (.iconst 2, 1) := by decide +kernel
theorem dL_study_207 : decode cL_study 207 = .ok (.iconst 4, 1) := by decide +kernel
theorem dL_study_208 : decode cL_study 208 = .ok (.iconst 0, 1) := by decide +kernel
theorem dL_study_209 : decode cL_study 209 = .ok (.iconst 0, 1) := by decide +kernel
theorem dL_study_210 : decode cL_study 210 = .ok (.invokestatic 196, 3) := by decide +kernel
theorem dL_study_213 : decode cL_study 213 = .ok (.istore 10, 2) := by decide +kernel
theorem dL_study_215 : decode cL_study 215 = .ok (.iload 9, 2) := by decide +kernel
theorem dL_study_217 : decode cL_study 217 = .ok (.iload 6, 2) := by decide +kernel
theorem dL_study_219 : decode cL_study 219 = .ok (.if_icmp .gt 30, 3) := by decide +kernel
theorem dL_study_222 : decode cL_study 222 = .ok (.iload 9, 2) := by decide +kernel
theorem dL_study_224 : decode cL_study 224 = .ok (.iload 6, 2) := by decide +kernel
theorem dL_study_226 : decode cL_study 226 = .ok (.if_icmp .ne 57, 3) := by decide +kernel
theorem dL_study_229 : decode cL_study 229 = .ok (.iload 10, 2) := by decide +kernel
theorem dL_study_231 : decode cL_study 231 = .ok (.iload 7, 2) := by decide +kernel
theorem dL_study_233 : decode cL_study 233 = .ok (.if_icmp .lt 16, 3) := by decide +kernel
theorem dL_study_236 : decode cL_study 236 = .ok (.iload 10, 2) := by decide +kernel
theorem dL_study_238 : decode cL_study 238 = .ok (.iload 7, 2) := by decide +kernel
theorem dL_study_240 : decode cL_study 240 = .ok (.if_icmp .ne 43, 3) := by decide +kernel
theorem dL_study_243 : decode cL_study 243 = .ok (.iload_n 3, 1) := by decide +kernel
theorem dL_study_244 : decode cL_study 244 = .ok (.iload 4, 2) := by decide +kernel
theorem dL_study_246 : decode cL_study 246 = .ok (.if_icmp .lt 37, 3) := by decide +kernel
theorem dL_study_249 : decode cL_study 249 = .ok (.aload_n 0, 1) := by decide +kernel
theorem dL_study_250 : decode cL_study 250 = .ok (.bipush 17, 2) := by decide +kernel
theorem dL_study_252 : decode cL_study 252 = .ok (.iconst 0, 1) := by decide +kernel
theorem dL_study_253 : decode cL_study 253 = .ok (.iconst 0, 1) := by decide +kernel
theorem dL_study_254 : decode cL_study 254 = .ok (.iconst 0, 1) := by decide +kernel
theorem dL_study_255 : decode cL_study 255 = .ok (.invokestatic 196, 3) := by decide +kernel
theorem dL_study_258 : decode cL_study 258 = .ok (.invokestatic 242, 3) := by decide +kernel
theorem dL_study_261 : decode cL_study 261 = .ok (.ifCond .ne 22, 3) := by decide +kernel
theorem dL_study_264 : decode cL_study 264 = .ok (.aload_n 1, 1) := by decide +kernel
theorem dL_study_265 : decode cL_study 265 = .ok (.bipush 17, 2) := by decide +kernel
theorem dL_study_267 : decode cL_study 267 = .ok (.iconst 0, 1) := by decide +kernel
theorem dL_study_268 : decode cL_study 268 = .ok (.iconst 0, 1) := by decide +kernel
theorem dL_study_269 : decode cL_study 269 = .ok (.iconst 0, 1) := by decide +kernel
theorem dL_study_270 : decode cL_study 270 = .ok (.invokestatic 196, 3) := by decide +kernel
theorem dL_study_273 : decode cL_study 273 = .ok (.invokestatic 242, 3) := by decide +kernel
theorem dL_study_276 : decode cL_study 276 = .ok (.ifCond .ne 7, 3) := by decide +kernel
theorem dL_study_279 : decode cL_study 279 = .ok (.iconst 1, 1) := by decide +kernel
theorem dL_study_280 : decode cL_study 280 = .ok (.goto 4, 3) := by decide +kernel
theorem dL_study_283 : decode cL_study 283 = .ok (.iconst 0, 1) := by decide +kernel
theorem dL_study_284 : decode cL_study 284 = .ok (.istore 5, 2) := by decide +kernel
theorem dL_study_286 : decode cL_study 286 = .ok (.iload 5, 2) := by decide +kernel
theorem dL_study_288 : decode cL_study 288 = .ok (.ireturn, 1) := by decide +kernel
