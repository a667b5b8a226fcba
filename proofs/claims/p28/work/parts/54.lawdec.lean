theorem dL_law_0 : decode cL_law 0 = .ok (.new 31, 3) := by decide +kernel
theorem dL_law_3 : decode cL_law 3 = .ok (.dup, 1) := by decide +kernel
theorem dL_law_4 : decode cL_law 4 = .ok (.invokespecial 168, 3) := by decide +kernel
theorem dL_law_7 : decode cL_law 7 = .ok (.astore_n 1, 1) := by decide +kernel
theorem dL_law_8 : decode cL_law 8 = .ok (.iconst 4, 1) := by decide +kernel
theorem dL_law_9 : decode cL_law 9 = .ok (.newarray .int, 2) := by decide +kernel
theorem dL_law_11 : decode cL_law 11 = .ok (.astore_n 2, 1) := by decide +kernel
theorem dL_law_12 : decode cL_law 12 = .ok (.bipush 24, 2) := by decide +kernel
theorem dL_law_14 : decode cL_law 14 = .ok (.newarray .int, 2) := by decide +kernel
theorem dL_law_16 : decode cL_law 16 = .ok (.astore_n 3, 1) := by decide +kernel
theorem dL_law_17 : decode cL_law 17 = .ok (.bipush 24, 2) := by decide +kernel
theorem dL_law_19 : decode cL_law 19 = .ok (.newarray .int, 2) := by decide +kernel
theorem dL_law_21 : decode cL_law 21 = .ok (.astore 4, 2) := by decide +kernel
theorem dL_law_23 : decode cL_law 23 = .ok (.bipush 10, 2) := by decide +kernel
theorem dL_law_25 : decode cL_law 25 = .ok (.newarray .int, 2) := by decide +kernel
theorem dL_law_27 : decode cL_law 27 = .ok (.astore 5, 2) := by decide +kernel
theorem dL_law_29 : decode cL_law 29 = .ok (.bipush 40, 2) := by decide +kernel
theorem dL_law_31 : decode cL_law 31 = .ok (.newarray .int, 2) := by decide +kernel
theorem dL_law_33 : decode cL_law 33 = .ok (.astore 6, 2) := by decide +kernel
theorem dL_law_35 : decode cL_law 35 = .ok (.bipush 20, 2) := by decide +kernel
theorem dL_law_37 : decode cL_law 37 = .ok (.newarray .int, 2) := by decide +kernel
theorem dL_law_39 : decode cL_law 39 = .ok (.astore 7, 2) := by decide +kernel
theorem dL_law_41 : decode cL_law 41 = .ok (.bipush 20, 2) := by decide +kernel
theorem dL_law_43 : decode cL_law 43 = .ok (.newarray .int, 2) := by decide +kernel
theorem dL_law_45 : decode cL_law 45 = .ok (.astore 8, 2) := by decide +kernel
theorem dL_law_47 : decode cL_law 47 = .ok (.iconst 0, 1) := by decide +kernel
theorem dL_law_48 : decode cL_law 48 = .ok (.istore 9, 2) := by decide +kernel
theorem dL_law_50 : decode cL_law 50 = .ok (.iload 9, 2) := by decide +kernel
theorem dL_law_52 : decode cL_law 52 = .ok (.bipush 90, 2) := by decide +kernel
theorem dL_law_54 : decode cL_law 54 = .ok (.if_icmp .ge 248, 3) := by decide +kernel
theorem dL_law_57 : decode cL_law 57 = .ok (.aload_n 0, 1) := by decide +kernel
theorem dL_law_58 : decode cL_law 58 = .ok (.iload 9, 2) := by decide +kernel
theorem dL_law_60 : decode cL_law 60 = .ok (.invokestatic 169, 3) := by decide +kernel
theorem dL_law_63 : decode cL_law 63 = .ok (.istore 10, 2) := by decide +kernel
theorem dL_law_65 : decode cL_law 65 = .ok (.iload 10, 2) := by decide +kernel
theorem dL_law_67 : decode cL_law 67 = .ok (.iconst 4, 1) := by decide +kernel
theorem dL_law_68 : decode cL_law 68 = .ok (.ishr, 1) := by decide +kernel
theorem dL_law_69 : decode cL_law 69 = .ok (.istore 11, 2) := by decide +kernel
theorem dL_law_71 : decode cL_law 71 = .ok (.iload 10, 2) := by decide +kernel
theorem dL_law_73 : decode cL_law 73 = .ok (.bipush 22, 2) := by decide +kernel
theorem dL_law_75 : decode cL_law 75 = .ok (.invokestatic 106, 3) := by decide +kernel
theorem dL_law_78 : decode cL_law 78 = .ok (.istore 12, 2) := by decide +kernel
theorem dL_law_80 : decode cL_law 80 = .ok (.iload 9, 2) := by decide +kernel
theorem dL_law_82 : decode cL_law 82 = .ok (.iconst 2, 1) := by decide +kernel
theorem dL_law_83 : decode cL_law 83 = .ok (.if_icmp .ge 17, 3) := by decide +kernel
theorem dL_law_86 : decode cL_law 86 = .ok (.aload_n 1, 1) := by decide +kernel
theorem dL_law_87 : decode cL_law 87 = .ok (.iconst 0, 1) := by decide +kernel
theorem dL_law_88 : decode cL_law 88 = .ok (.iload 11, 2) := by decide +kernel
theorem dL_law_90 : decode cL_law 90 = .ok (.aload_n 2, 1) := by decide +kernel
theorem dL_law_91 : decode cL_law 91 = .ok (.aload_n 3, 1) := by decide +kernel
theorem dL_law_92 : decode cL_law 92 = .ok (.aload 5, 2) := by decide +kernel
theorem dL_law_94 : decode cL_law 94 = .ok (.invokestatic 173, 3) := by decide +kernel
theorem dL_law_97 : decode cL_law 97 = .ok (.goto 123, 3) := by decide +kernel
theorem dL_law_100 : decode cL_law 100 = .ok (.iload 9, 2) := by decide +kernel
theorem dL_law_102 : decode cL_law 102 = .ok (.iconst 4, 1) := by decide +kernel
theorem dL_law_103 : decode cL_law 103 = .ok (.if_icmp .ge 17, 3) := by decide +kernel
theorem dL_law_106 : decode cL_law 106 = .ok (.aload_n 1, 1) := by decide +kernel
theorem dL_law_107 : decode cL_law 107 = .ok (.iconst 1, 1) := by decide +kernel
theorem dL_law_108 : decode cL_law 108 = .ok (.iload 11, 2) := by decide +kernel
theorem dL_law_110 : decode cL_law 110 = .ok (.aload_n 2, 1) := by decide +kernel
theorem dL_law_111 : decode cL_law 111 = .ok (.aload_n 3, 1) := by decide +kernel
theorem dL_law_112 : decode cL_law 112 = .ok (.aload 5, 2) := by decide +kernel
theorem dL_law_114 : decode cL_law 114 = .ok (.invokestatic 173, 3) := by decide +kernel
theorem dL_law_117 : decode cL_law 117 = .ok (.goto 103, 3) := by decide +kernel
theorem dL_law_120 : decode cL_law 120 = .ok (.iload 12, 2) := by decide +kernel
theorem dL_law_122 : decode cL_law 122 = .ok (.bipush 8, 2) := by decide +kernel
theorem dL_law_124 : decode cL_law 124 = .ok (.if_icmp .ge 38, 3) := by decide +kernel
theorem dL_law_127 : decode cL_law 127 = .ok (.aload_n 1, 1) := by decide +kernel
theorem dL_law_128 : decode cL_law 128 = .ok (.iload 12, 2) := by decide +kernel
theorem dL_law_130 : decode cL_law 130 = .ok (.bipush 7, 2) := by decide +kernel
theorem dL_law_132 : decode cL_law 132 = .ok (.if_icmp .ne 16, 3) := by decide +kernel
theorem dL_law_135 : decode cL_law 135 = .ok (.iload 11, 2) := by decide +kernel
theorem dL_law_137 : decode cL_law 137 = .ok (.iconst 2, 1) := by decide +kernel
theorem dL_law_138 : decode cL_law 138 = .ok (.invokestatic 106, 3) := by decide +kernel
theorem dL_law_141 : decode cL_law 141 = .ok (.ifCond .ne 7, 3) := by decide +kernel
theorem dL_law_144 : decode cL_law 144 = .ok (.iconst 3, 1) := by decide +kernel
theorem dL_law_145 : decode cL_law 145 = .ok (.goto 5, 3) := by decide +kernel
theorem dL_law_148 : decode cL_law 148 = .ok (.iload 12, 2) := by decide +kernel
theorem dL_law_150 : decode cL_law 150 = .ok (.iload 11, 2) := by decide +kernel
theorem dL_law_152 : decode cL_law 152 = .ok (.aload_n 2, 1) := by decide +kernel
theorem dL_law_153 : decode cL_law 153 = .ok (.aload_n 3, 1) := by decide +kernel
theorem dL_law_154 : decode cL_law 154 = .ok (.aload 5, 2) := by decide +kernel
theorem dL_law_156 : decode cL_law 156 = .ok (.invokestatic 173, 3) := by decide +kernel
theorem dL_law_159 : decode cL_law 159 = .ok (.goto 61, 3) := by decide +kernel
theorem dL_law_162 : decode cL_law 162 = .ok (.iload 12, 2) := by decide +kernel
theorem dL_law_164 : decode cL_law 164 = .ok (.bipush 11, 2) := by decide +kernel
theorem dL_law_166 : decode cL_law 166 = .ok (.if_icmp .ge 17, 3) := by decide +kernel
theorem dL_law_169 : decode cL_law 169 = .ok (.aload_n 1, 1) := by decide +kernel
theorem dL_law_170 : decode cL_law 170 = .ok (.iconst 3, 1) := by decide +kernel
theorem dL_law_171 : decode cL_law 171 = .ok (.iload 11, 2) := by decide +kernel
theorem dL_law_173 : decode cL_law 173 = .ok (.aload_n 2, 1) := by decide +kernel
theorem dL_law_174 : decode cL_law 174 = .ok (.aload_n 3, 1) := by decide +kernel
theorem dL_law_175 : decode cL_law 175 = .ok (.aload 5, 2) := by decide +kernel
theorem dL_law_177 : decode cL_law 177 = .ok (.invokestatic 173, 3) := by decide +kernel
theorem dL_law_180 : decode cL_law 180 = .ok (.goto 40, 3) := by decide +kernel
theorem dL_law_183 : decode cL_law 183 = .ok (.aload_n 1, 1) := by decide +kernel
theorem dL_law_184 : decode cL_law 184 = .ok (.iload 12, 2) := by decide +kernel
theorem dL_law_186 : decode cL_law 186 = .ok (.bipush 11, 2) := by decide +kernel
theorem dL_law_188 : decode cL_law 188 = .ok (.isub, 1) := by decide +kernel
theorem dL_law_189 : decode cL_law 189 = .ok (.bipush 8, 2) := by decide +kernel
theorem dL_law_191 : decode cL_law 191 = .ok (.if_icmp .ge 11, 3) := by decide +kernel
theorem dL_law_194 : decode cL_law 194 = .ok (.iload 12, 2) := by decide +kernel
theorem dL_law_196 : decode cL_law 196 = .ok (.bipush 11, 2) := by decide +kernel
theorem dL_law_198 : decode cL_law 198 = .ok (.isub, 1) := by decide +kernel
theorem dL_law_199 : decode cL_law 199 = .ok (.goto 4, 3) := by decide +kernel
theorem dL_law_202 : decode cL_law 202 = .ok (.iconst 4, 1) := by decide +kernel
theorem dL_law_203 : decode cL_law 203 = .ok (.iload 11, 2) := by decide +kernel
theorem dL_law_205 : decode cL_law 205 = .ok (.aload_n 2, 1) := by decide +kernel
theorem dL_law_206 : decode cL_law 206 = .ok (.aload_n 3, 1) := by decide +kernel
theorem dL_law_207 : decode cL_law 207 = .ok (.aload 4, 2) := by decide +kernel
theorem dL_law_209 : decode cL_law 209 = .ok (.aload 5, 2) := by decide +kernel
theorem dL_law_211 : decode cL_law 211 = .ok (.aload 6, 2) := by decide +kernel
theorem dL_law_213 : decode cL_law 213 = .ok (.aload 7, 2) := by decide +kernel
theorem dL_law_215 : decode cL_law 215 = .ok (.aload 8, 2) := by decide +kernel
theorem dL_law_217 : decode cL_law 217 = .ok (.invokestatic 177, 3) := by decide +kernel
theorem dL_law_220 : decode cL_law 220 = .ok (.istore 13, 2) := by decide +kernel
theorem dL_law_222 : decode cL_law 222 = .ok (.iload 13, 2) := by decide +kernel
theorem dL_law_224 : decode cL_law 224 = .ok (.ifCond .eq 62, 3) := by decide +kernel
theorem dL_law_227 : decode cL_law 227 = .ok (.iload 9, 2) := by decide +kernel
theorem dL_law_229 : decode cL_law 229 = .ok (.iconst 3, 1) := by decide +kernel
theorem dL_law_230 : decode cL_law 230 = .ok (.irem, 1) := by decide +kernel
theorem dL_law_231 : decode cL_law 231 = .ok (.ifCond .gt 24, 3) := by decide +kernel
theorem dL_law_234 : decode cL_law 234 = .ok (.aload_n 1, 1) := by decide +kernel
theorem dL_law_235 : decode cL_law 235 = .ok (.iload 11, 2) := by decide +kernel
theorem dL_law_237 : decode cL_law 237 = .ok (.aload_n 2, 1) := by decide +kernel
theorem dL_law_238 : decode cL_law 238 = .ok (.aload_n 3, 1) := by decide +kernel
theorem dL_law_239 : decode cL_law 239 = .ok (.aload 4, 2) := by decide +kernel
theorem dL_law_241 : decode cL_law 241 = .ok (.aload 5, 2) := by decide +kernel
theorem dL_law_243 : decode cL_law 243 = .ok (.aload 6, 2) := by decide +kernel
theorem dL_law_245 : decode cL_law 245 = .ok (.aload 7, 2) := by decide +kernel
theorem dL_law_247 : decode cL_law 247 = .ok (.aload 8, 2) := by decide +kernel
theorem dL_law_249 : decode cL_law 249 = .ok (.invokestatic 181, 3) := by decide +kernel
theorem dL_law_252 : decode cL_law 252 = .ok (.ifCond .eq 34, 3) := by decide +kernel
theorem dL_law_255 : decode cL_law 255 = .ok (.iload 9, 2) := by decide +kernel
theorem dL_law_257 : decode cL_law 257 = .ok (.bipush 9, 2) := by decide +kernel
theorem dL_law_259 : decode cL_law 259 = .ok (.irem, 1) := by decide +kernel
theorem dL_law_260 : decode cL_law 260 = .ok (.bipush 8, 2) := by decide +kernel
theorem dL_law_262 : decode cL_law 262 = .ok (.if_icmp .lt 20, 3) := by decide +kernel
theorem dL_law_265 : decode cL_law 265 = .ok (.aload_n 1, 1) := by decide +kernel
theorem dL_law_266 : decode cL_law 266 = .ok (.aload_n 2, 1) := by decide +kernel
theorem dL_law_267 : decode cL_law 267 = .ok (.aload_n 3, 1) := by decide +kernel
theorem dL_law_268 : decode cL_law 268 = .ok (.aload 4, 2) := by decide +kernel
theorem dL_law_270 : decode cL_law 270 = .ok (.aload 5, 2) := by decide +kernel
theorem dL_law_272 : decode cL_law 272 = .ok (.aload 6, 2) := by decide +kernel
theorem dL_law_274 : decode cL_law 274 = .ok (.aload 8, 2) := by decide +kernel
theorem dL_law_276 : decode cL_law 276 = .ok (.invokestatic 185, 3) := by decide +kernel
theorem dL_law_279 : decode cL_law 279 = .ok (.ifCond .eq 7, 3) := by decide +kernel
theorem dL_law_282 : decode cL_law 282 = .ok (.iconst 1, 1) := by decide +kernel
theorem dL_law_283 : decode cL_law 283 = .ok (.goto 4, 3) := by decide +kernel
theorem dL_law_286 : decode cL_law 286 = .ok (.iconst 0, 1) := by decide +kernel
theorem dL_law_287 : decode cL_law 287 = .ok (.istore 13, 2) := by decide +kernel
theorem dL_law_289 : decode cL_law 289 = .ok (.iload 13, 2) := by decide +kernel
theorem dL_law_291 : decode cL_law 291 = .ok (.ifCond .ne 5, 3) := by decide +kernel
theorem dL_law_294 : decode cL_law 294 = .ok (.iconst 0, 1) := by decide +kernel
theorem dL_law_295 : decode cL_law 295 = .ok (.ireturn, 1) := by decide +kernel
theorem dL_law_296 : decode cL_law 296 = .ok (.iinc 9 1, 3) := by decide +kernel
theorem dL_law_299 : decode cL_law 299 = .ok (.goto (-249), 3) := by decide +kernel
theorem dL_law_302 : decode cL_law 302 = .ok (.iconst 1, 1) := by decide +kernel
theorem dL_law_303 : decode cL_law 303 = .ok (.ireturn, 1) := by decide +kernel
