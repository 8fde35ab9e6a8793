theorem dL_pass_172 : decode cL_pass 172 = .ok (.lload 11, 2) := by decide +kernel
theorem dL_pass_174 : decode cL_pass 174 = .ok (.ldc2_w 31, 3) := by decide +kernel
theorem dL_pass_177 : decode cL_pass 177 = .ok (.lcmp, 1) := by decide +kernel
theorem dL_pass_178 : decode cL_pass 178 = .ok (.ifCond .le 9, 3) := by decide +kernel
theorem dL_pass_181 : decode cL_pass 181 = .ok (.ldc2_w 31, 3) := by decide +kernel
theorem dL_pass_184 : decode cL_pass 184 = .ok (.goto 5, 3) := by decide +kernel
theorem dL_pass_187 : decode cL_pass 187 = .ok (.lload 11, 2) := by decide +kernel
theorem dL_pass_189 : decode cL_pass 189 = .ok (.lstore 11, 2) := by decide +kernel
theorem dL_pass_191 : decode cL_pass 191 = .ok (.aload 8, 2) := by decide +kernel
theorem dL_pass_193 : decode cL_pass 193 = .ok (.iload 10, 2) := by decide +kernel
theorem dL_pass_195 : decode cL_pass 195 = .ok (.lload 11, 2) := by decide +kernel
theorem dL_pass_197 : decode cL_pass 197 = .ok (.lastore, 1) := by decide +kernel
theorem dL_pass_198 : decode cL_pass 198 = .ok (.iinc 10 1, 3) := by decide +kernel
theorem dL_pass_201 : decode cL_pass 201 = .ok (.goto (-190), 3) := by decide +kernel
theorem dL_pass_204 : decode cL_pass 204 = .ok (.iconst 0, 1) := by decide +kernel
theorem dL_pass_205 : decode cL_pass 205 = .ok (.istore 10, 2) := by decide +kernel
theorem dL_pass_207 : decode cL_pass 207 = .ok (.iload 10, 2) := by decide +kernel
theorem dL_pass_209 : decode cL_pass 209 = .ok (.iload 7, 2) := by decide +kernel
theorem dL_pass_211 : decode cL_pass 211 = .ok (.invokestatic 21, 3) := by decide +kernel
theorem dL_pass_214 : decode cL_pass 214 = .ok (.if_icmp .ge 55, 3) := by decide +kernel
theorem dL_pass_217 : decode cL_pass 217 = .ok (.iload 9, 2) := by decide +kernel
theorem dL_pass_219 : decode cL_pass 219 = .ok (.aload 8, 2) := by decide +kernel
theorem dL_pass_221 : decode cL_pass 221 = .ok (.iload 10, 2) := by decide +kernel
theorem dL_pass_223 : decode cL_pass 223 = .ok (.laload, 1) := by decide +kernel
theorem dL_pass_224 : decode cL_pass 224 = .ok (.aload 5, 2) := by decide +kernel
theorem dL_pass_226 : decode cL_pass 226 = .ok (.iconst 4, 1) := by decide +kernel
theorem dL_pass_227 : decode cL_pass 227 = .ok (.iload 7, 2) := by decide +kernel
theorem dL_pass_229 : decode cL_pass 229 = .ok (.imul, 1) := by decide +kernel
theorem dL_pass_230 : decode cL_pass 230 = .ok (.iload 10, 2) := by decide +kernel
theorem dL_pass_232 : decode cL_pass 232 = .ok (.iadd, 1) := by decide +kernel
theorem dL_pass_233 : decode cL_pass 233 = .ok (.iaload, 1) := by decide +kernel
theorem dL_pass_234 : decode cL_pass 234 = .ok (.i2l, 1) := by decide +kernel
theorem dL_pass_235 : decode cL_pass 235 = .ok (.lcmp, 1) := by decide +kernel
theorem dL_pass_236 : decode cL_pass 236 = .ok (.ifCond .ne 7, 3) := by decide +kernel
theorem dL_pass_239 : decode cL_pass 239 = .ok (.iconst 0, 1) := by decide +kernel
theorem dL_pass_240 : decode cL_pass 240 = .ok (.goto 4, 3) := by decide +kernel
theorem dL_pass_243 : decode cL_pass 243 = .ok (.iconst 1, 1) := by decide +kernel
theorem dL_pass_244 : decode cL_pass 244 = .ok (.iadd, 1) := by decide +kernel
theorem dL_pass_245 : decode cL_pass 245 = .ok (.istore 9, 2) := by decide +kernel
theorem dL_pass_247 : decode cL_pass 247 = .ok (.aload 5, 2) := by decide +kernel
theorem dL_pass_249 : decode cL_pass 249 = .ok (.iconst 4, 1) := by decide +kernel
theorem dL_pass_250 : decode cL_pass 250 = .ok (.iload 7, 2) := by decide +kernel
theorem dL_pass_252 : decode cL_pass 252 = .ok (.imul, 1) := by decide +kernel
theorem dL_pass_253 : decode cL_pass 253 = .ok (.iload 10, 2) := by decide +kernel
theorem dL_pass_255 : decode cL_pass 255 = .ok (.iadd, 1) := by decide +kernel
theorem dL_pass_256 : decode cL_pass 256 = .ok (.aload 8, 2) := by decide +kernel
theorem dL_pass_258 : decode cL_pass 258 = .ok (.iload 10, 2) := by decide +kernel
theorem dL_pass_260 : decode cL_pass 260 = .ok (.laload, 1) := by decide +kernel
theorem dL_pass_261 : decode cL_pass 261 = .ok (.l2i, 1) := by decide +kernel
theorem dL_pass_262 : decode cL_pass 262 = .ok (.iastore, 1) := by decide +kernel
theorem dL_pass_263 : decode cL_pass 263 = .ok (.iinc 10 1, 3) := by decide +kernel
theorem dL_pass_266 : decode cL_pass 266 = .ok (.goto (-59), 3) := by decide +kernel
theorem dL_pass_269 : decode cL_pass 269 = .ok (.iload 9, 2) := by decide +kernel
theorem dL_pass_271 : decode cL_pass 271 = .ok (.ireturn, 1) := by decide +kernel
theorem dL_smooth_0 : decode cL_smooth 0 = .ok (.iconst 4, 1) := by decide +kernel
theorem dL_smooth_1 : decode cL_smooth 1 = .ok (.newarray .long, 2) := by decide +kernel
theorem dL_smooth_3 : decode cL_smooth 3 = .ok (.astore 8, 2) := by decide +kernel
theorem dL_smooth_5 : decode cL_smooth 5 = .ok (.iconst 4, 1) := by decide +kernel
theorem dL_smooth_6 : decode cL_smooth 6 = .ok (.newarray .long, 2) := by decide +kernel
theorem dL_smooth_8 : decode cL_smooth 8 = .ok (.astore 9, 2) := by decide +kernel
theorem dL_smooth_10 : decode cL_smooth 10 = .ok (.iconst 4, 1) := by decide +kernel
theorem dL_smooth_11 : decode cL_smooth 11 = .ok (.newarray .int, 2) := by decide +kernel
theorem dL_smooth_13 : decode cL_smooth 13 = .ok (.astore 10, 2) := by decide +kernel
theorem dL_smooth_15 : decode cL_smooth 15 = .ok (.iload 7, 2) := by decide +kernel
theorem dL_smooth_17 : decode cL_smooth 17 = .ok (.invokestatic 21, 3) := by decide +kernel
theorem dL_smooth_20 : decode cL_smooth 20 = .ok (.istore 11, 2) := by decide +kernel
theorem dL_smooth_22 : decode cL_smooth 22 = .ok (.iconst 0, 1) := by decide +kernel
theorem dL_smooth_23 : decode cL_smooth 23 = .ok (.istore 12, 2) := by decide +kernel
theorem dL_smooth_25 : decode cL_smooth 25 = .ok (.iload 12, 2) := by decide +kernel
theorem dL_smooth_27 : decode cL_smooth 27 = .ok (.iload 11, 2) := by decide +kernel
theorem dL_smooth_29 : decode cL_smooth 29 = .ok (.if_icmp .ge 54, 3) := by decide +kernel
theorem dL_smooth_32 : decode cL_smooth 32 = .ok (.aload 8, 2) := by decide +kernel
theorem dL_smooth_34 : decode cL_smooth 34 = .ok (.iload 12, 2) := by decide +kernel
theorem dL_smooth_36 : decode cL_smooth 36 = .ok (.aload 5, 2) := by decide +kernel
theorem dL_smooth_38 : decode cL_smooth 38 = .ok (.iconst 4, 1) := by decide +kernel
theorem dL_smooth_39 : decode cL_smooth 39 = .ok (.iload 7, 2) := by decide +kernel
theorem dL_smooth_41 : decode cL_smooth 41 = .ok (.imul, 1) := by decide +kernel
theorem dL_smooth_42 : decode cL_smooth 42 = .ok (.iload 12, 2) := by decide +kernel
theorem dL_smooth_44 : decode cL_smooth 44 = .ok (.iadd, 1) := by decide +kernel
theorem dL_smooth_45 : decode cL_smooth 45 = .ok (.iaload, 1) := by decide +kernel
theorem dL_smooth_46 : decode cL_smooth 46 = .ok (.i2l, 1) := by decide +kernel
theorem dL_smooth_47 : decode cL_smooth 47 = .ok (.lastore, 1) := by decide +kernel
theorem dL_smooth_48 : decode cL_smooth 48 = .ok (.aload 9, 2) := by decide +kernel
theorem dL_smooth_50 : decode cL_smooth 50 = .ok (.iload 12, 2) := by decide +kernel
theorem dL_smooth_52 : decode cL_smooth 52 = .ok (.aload_n 0, 1) := by decide +kernel
theorem dL_smooth_53 : decode cL_smooth 53 = .ok (.aload_n 1, 1) := by decide +kernel
theorem dL_smooth_54 : decode cL_smooth 54 = .ok (.aload_n 2, 1) := by decide +kernel
theorem dL_smooth_55 : decode cL_smooth 55 = .ok (.aload_n 3, 1) := by decide +kernel
theorem dL_smooth_56 : decode cL_smooth 56 = .ok (.aload 4, 2) := by decide +kernel
theorem dL_smooth_58 : decode cL_smooth 58 = .ok (.aload 5, 2) := by decide +kernel
theorem dL_smooth_60 : decode cL_smooth 60 = .ok (.aload 6, 2) := by decide +kernel
theorem dL_smooth_62 : decode cL_smooth 62 = .ok (.iconst 3, 1) := by decide +kernel
theorem dL_smooth_63 : decode cL_smooth 63 = .ok (.iload 7, 2) := by decide +kernel
theorem dL_smooth_65 : decode cL_smooth 65 = .ok (.iload 12, 2) := by decide +kernel
theorem dL_smooth_67 : decode cL_smooth 67 = .ok (.invokestatic 25, 3) := by decide +kernel
theorem dL_smooth_70 : decode cL_smooth 70 = .ok (.lastore, 1) := by decide +kernel
theorem dL_smooth_71 : decode cL_smooth 71 = .ok (.aload 10, 2) := by decide +kernel
theorem dL_smooth_73 : decode cL_smooth 73 = .ok (.iload 12, 2) := by decide +kernel
theorem dL_smooth_75 : decode cL_smooth 75 = .ok (.iconst 1, 1) := by decide +kernel
theorem dL_smooth_76 : decode cL_smooth 76 = .ok (.iastore, 1) := by decide +kernel
theorem dL_smooth_77 : decode cL_smooth 77 = .ok (.iinc 12 1, 3) := by decide +kernel
theorem dL_smooth_80 : decode cL_smooth 80 = .ok (.goto (-55), 3) := by decide +kernel
theorem dL_smooth_83 : decode cL_smooth 83 = .ok (.iconst 1, 1) := by decide +kernel
theorem dL_smooth_84 : decode cL_smooth 84 = .ok (.istore 12, 2) := by decide +kernel
theorem dL_smooth_86 : decode cL_smooth 86 = .ok (.iload 12, 2) := by decide +kernel
theorem dL_smooth_88 : decode cL_smooth 88 = .ok (.iload 11, 2) := by decide +kernel
theorem dL_smooth_90 : decode cL_smooth 90 = .ok (.if_icmp .ge 217, 3) := by decide +kernel
theorem dL_smooth_93 : decode cL_smooth 93 = .ok (.aload 8, 2) := by decide +kernel
theorem dL_smooth_95 : decode cL_smooth 95 = .ok (.iload 12, 2) := by decide +kernel
theorem dL_smooth_97 : decode cL_smooth 97 = .ok (.laload, 1) := by decide +kernel
theorem dL_smooth_98 : decode cL_smooth 98 = .ok (.aload 8, 2) := by decide +kernel
theorem dL_smooth_100 : decode cL_smooth 100 = .ok (.iload 12, 2) := by decide +kernel
theorem dL_smooth_102 : decode cL_smooth 102 = .ok (.iconst 1, 1) := by decide +kernel
theorem dL_smooth_103 : decode cL_smooth 103 = .ok (.isub, 1) := by decide +kernel
theorem dL_smooth_104 : decode cL_smooth 104 = .ok (.laload, 1) := by decide +kernel
theorem dL_smooth_105 : decode cL_smooth 105 = .ok (.lcmp, 1) := by decide +kernel
theorem dL_smooth_106 : decode cL_smooth 106 = .ok (.ifCond .lt 9, 3) := by decide +kernel
theorem dL_smooth_109 : decode cL_smooth 109 = .ok (.iinc 12 1, 3) := by decide +kernel
theorem dL_smooth_112 : decode cL_smooth 112 = .ok (.goto (-26), 3) := by decide +kernel
theorem dL_smooth_115 : decode cL_smooth 115 = .ok (.aload 9, 2) := by decide +kernel
theorem dL_smooth_117 : decode cL_smooth 117 = .ok (.iload 12, 2) := by decide +kernel
theorem dL_smooth_119 : decode cL_smooth 119 = .ok (.iconst 1, 1) := by decide +kernel
theorem dL_smooth_120 : decode cL_smooth 120 = .ok (.isub, 1) := by decide +kernel
theorem dL_smooth_121 : decode cL_smooth 121 = .ok (.laload, 1) := by decide +kernel
theorem dL_smooth_122 : decode cL_smooth 122 = .ok (.aload 9, 2) := by decide +kernel
theorem dL_smooth_124 : decode cL_smooth 124 = .ok (.iload 12, 2) := by decide +kernel
theorem dL_smooth_126 : decode cL_smooth 126 = .ok (.laload, 1) := by decide +kernel
theorem dL_smooth_127 : decode cL_smooth 127 = .ok (.ladd, 1) := by decide +kernel
theorem dL_smooth_128 : decode cL_smooth 128 = .ok (.lstore 13, 2) := by decide +kernel
theorem dL_smooth_130 : decode cL_smooth 130 = .ok (.aload 8, 2) := by decide +kernel
theorem dL_smooth_132 : decode cL_smooth 132 = .ok (.iload 12, 2) := by decide +kernel
theorem dL_smooth_134 : decode cL_smooth 134 = .ok (.iconst 1, 1) := by decide +kernel
theorem dL_smooth_135 : decode cL_smooth 135 = .ok (.isub, 1) := by decide +kernel
theorem dL_smooth_136 : decode cL_smooth 136 = .ok (.lload 13, 2) := by decide +kernel
theorem dL_smooth_138 : decode cL_smooth 138 = .ok (.lconst 0, 1) := by decide +kernel
theorem dL_smooth_139 : decode cL_smooth 139 = .ok (.lcmp, 1) := by decide +kernel
theorem dL_smooth_140 : decode cL_smooth 140 = .ok (.ifCond .ne 50, 3) := by decide +kernel
theorem dL_smooth_143 : decode cL_smooth 143 = .ok (.aload 8, 2) := by decide +kernel
theorem dL_smooth_145 : decode cL_smooth 145 = .ok (.iload 12, 2) := by decide +kernel
theorem dL_smooth_147 : decode cL_smooth 147 = .ok (.iconst 1, 1) := by decide +kernel
theorem dL_smooth_148 : decode cL_smooth 148 = .ok (.isub, 1) := by decide +kernel
theorem dL_smooth_149 : decode cL_smooth 149 = .ok (.laload, 1) := by decide +kernel
theorem dL_smooth_150 : decode cL_smooth 150 = .ok (.aload 10, 2) := by decide +kernel
theorem dL_smooth_152 : decode cL_smooth 152 = .ok (.iload 12, 2) := by decide +kernel
theorem dL_smooth_154 : decode cL_smooth 154 = .ok (.iconst 1, 1) := by decide +kernel
theorem dL_smooth_155 : decode cL_smooth 155 = .ok (.isub, 1) := by decide +kernel
theorem dL_smooth_156 : decode cL_smooth 156 = .ok (.iaload, 1) := by decide +kernel
theorem dL_smooth_157 : decode cL_smooth 157 = .ok (.i2l, 1) := by decide +kernel
theorem dL_smooth_158 : decode cL_smooth 158 = .ok (.lmul, 1) := by decide +kernel
theorem dL_smooth_159 : decode cL_smooth 159 = .ok (.aload 8, 2) := by decide +kernel
theorem dL_smooth_161 : decode cL_smooth 161 = .ok (.iload 12, 2) := by decide +kernel
theorem dL_smooth_163 : decode cL_smooth 163 = .ok (.laload, 1) := by decide +kernel
theorem dL_smooth_164 : decode cL_smooth 164 = .ok (.aload 10, 2) := by decide +kernel
theorem dL_smooth_166 : decode cL_smooth 166 = .ok (.iload 12, 2) := by decide +kernel
theorem dL_smooth_168 : decode cL_smooth 168 = .ok (.iaload, 1) := by decide +kernel
theorem dL_smooth_169 : decode cL_smooth 169 = .ok (.i2l, 1) := by decide +kernel
theorem dL_smooth_170 : decode cL_smooth 170 = .ok (.lmul, 1) := by decide +kernel
theorem dL_smooth_171 : decode cL_smooth 171 = .ok (.ladd, 1) := by decide +kernel
theorem dL_smooth_172 : decode cL_smooth 172 = .ok (.aload 10, 2) := by decide +kernel
theorem dL_smooth_174 : decode cL_smooth 174 = .ok (.iload 12, 2) := by decide +kernel
theorem dL_smooth_176 : decode cL_smooth 176 = .ok (.iconst 1, 1) := by decide +kernel
theorem dL_smooth_177 : decode cL_smooth 177 = .ok (.isub, 1) := by decide +kernel
theorem dL_smooth_178 : decode cL_smooth 178 = .ok (.iaload, 1) := by decide +kernel
theorem dL_smooth_179 : decode cL_smooth 179 = .ok (.aload 10, 2) := by decide +kernel
theorem dL_smooth_181 : decode cL_smooth 181 = .ok (.iload 12, 2) := by decide +kernel
theorem dL_smooth_183 : decode cL_smooth 183 = .ok (.iaload, 1) := by decide +kernel
theorem dL_smooth_184 : decode cL_smooth 184 = .ok (.iadd, 1) := by decide +kernel
theorem dL_smooth_185 : decode cL_smooth 185 = .ok (.i2l, 1) := by decide +kernel
theorem dL_smooth_186 : decode cL_smooth 186 = .ok (.ldiv, 1) := by decide +kernel
theorem dL_smooth_187 : decode cL_smooth 187 = .ok (.goto 33, 3) := by decide +kernel
theorem dL_smooth_190 : decode cL_smooth 190 = .ok (.aload 8, 2) := by decide +kernel
theorem dL_smooth_192 : decode cL_smooth 192 = .ok (.iload 12, 2) := by decide +kernel
theorem dL_smooth_194 : decode cL_smooth 194 = .ok (.iconst 1, 1) := by decide +kernel
theorem dL_smooth_195 : decode cL_smooth 195 = .ok (.isub, 1) := by decide +kernel
theorem dL_smooth_196 : decode cL_smooth 196 = .ok (.laload, 1) := by decide +kernel
theorem dL_smooth_197 : decode cL_smooth 197 = .ok (.aload 9, 2) := by decide +kernel
theorem dL_smooth_199 : decode cL_smooth 199 = .ok (.iload 12, 2) := by decide +kernel
theorem dL_smooth_201 : decode cL_smooth 201 = .ok (.iconst 1, 1) := by decide +kernel
theorem dL_smooth_202 : decode cL_smooth 202 = .ok (.isub, 1) := by decide +kernel
theorem dL_smooth_203 : decode cL_smooth 203 = .ok (.laload, 1) := by decide +kernel
theorem dL_smooth_204 : decode cL_smooth 204 = .ok (.lmul, 1) := by decide +kernel
theorem dL_smooth_205 : decode cL_smooth 205 = .ok (.aload 8, 2) := by decide +kernel
theorem dL_smooth_207 : decode cL_smooth 207 = .ok (.iload 12, 2) := by decide +kernel
theorem dL_smooth_209 : decode cL_smooth 209 = .ok (.laload, 1) := by decide +kernel
theorem dL_smooth_210 : decode cL_smooth 210 = .ok (.aload 9, 2) := by decide +kernel
theorem dL_smooth_212 : decode cL_smooth 212 = .ok (.iload 12, 2) := by decide +kernel
theorem dL_smooth_214 : decode cL_smooth 214 = .ok (.laload, 1) := by decide +kernel
theorem dL_smooth_215 : decode cL_smooth 215 = .ok (.lmul, 1) := by decide +kernel
theorem dL_smooth_216 : decode cL_smooth 216 = .ok (.ladd, 1) := by decide +kernel
theorem dL_smooth_217 : decode cL_smooth 217 = .ok (.lload 13, 2) := by decide +kernel
theorem dL_smooth_219 : decode cL_smooth 219 = .ok (.ldiv, 1) := by decide +kernel
theorem dL_smooth_220 : decode cL_smooth 220 = .ok (.lastore, 1) := by decide +kernel
theorem dL_smooth_221 : decode cL_smooth 221 = .ok (.aload 9, 2) := by decide +kernel
theorem dL_smooth_223 : decode cL_smooth 223 = .ok (.iload 12, 2) := by decide +kernel
theorem dL_smooth_225 : decode cL_smooth 225 = .ok (.iconst 1, 1) := by decide +kernel
theorem dL_smooth_226 : decode cL_smooth 226 = .ok (.isub, 1) := by decide +kernel
theorem dL_smooth_227 : decode cL_smooth 227 = .ok (.lload 13, 2) := by decide +kernel
theorem dL_smooth_229 : decode cL_smooth 229 = .ok (.lastore, 1) := by decide +kernel
theorem dL_smooth_230 : decode cL_smooth 230 = .ok (.aload 10, 2) := by decide +kernel
theorem dL_smooth_232 : decode cL_smooth 232 = .ok (.iload 12, 2) := by decide +kernel
theorem dL_smooth_234 : decode cL_smooth 234 = .ok (.iconst 1, 1) := by decide +kernel
theorem dL_smooth_235 : decode cL_smooth 235 = .ok (.isub, 1) := by decide +kernel
theorem dL_smooth_236 : decode cL_smooth 236 = .ok (.dup2, 1) := by decide +kernel
theorem dL_smooth_237 : decode cL_smooth 237 = .ok (.iaload, 1) := by decide +kernel
theorem dL_smooth_238 : decode cL_smooth 238 = .ok (.aload 10, 2) := by decide +kernel
theorem dL_smooth_240 : decode cL_smooth 240 = .ok (.iload 12, 2) := by decide +kernel
theorem dL_smooth_242 : decode cL_smooth 242 = .ok (.iaload, 1) := by decide +kernel
theorem dL_smooth_243 : decode cL_smooth 243 = .ok (.iadd, 1) := by decide +kernel
theorem dL_smooth_244 : decode cL_smooth 244 = .ok (.iastore, 1) := by decide +kernel
theorem dL_smooth_245 : decode cL_smooth 245 = .ok (.iinc 11 (-1), 3) := by decide +kernel
theorem dL_smooth_248 : decode cL_smooth 248 = .ok (.iload 12, 2) := by decide +kernel
theorem dL_smooth_250 : decode cL_smooth 250 = .ok (.istore 15, 2) := by decide +kernel
theorem dL_smooth_252 : decode cL_smooth 252 = .ok (.iload 15, 2) := by decide +kernel
theorem dL_smooth_254 : decode cL_smooth 254 = .ok (.iload 11, 2) := by decide +kernel
theorem dL_smooth_256 : decode cL_smooth 256 = .ok (.if_icmp .ge 45, 3) := by decide +kernel
theorem dL_smooth_259 : decode cL_smooth 259 = .ok (.aload 8, 2) := by decide +kernel
theorem dL_smooth_261 : decode cL_smooth 261 = .ok (.iload 15, 2) := by decide +kernel
theorem dL_smooth_263 : decode cL_smooth 263 = .ok (.aload 8, 2) := by decide +kernel
theorem dL_smooth_265 : decode cL_smooth 265 = .ok (.iload 15, 2) := by decide +kernel
theorem dL_smooth_267 : decode cL_smooth 267 = .ok (.iconst 1, 1) := by decide +kernel
theorem dL_smooth_268 : decode cL_smooth 268 = .ok (.iadd, 1) := by decide +kernel
theorem dL_smooth_269 : decode cL_smooth 269 = .ok (.laload, 1) := by decide +kernel
theorem dL_smooth_270 : decode cL_smooth 270 = .ok (.lastore, 1) := by decide +kernel
theorem dL_smooth_271 : decode cL_smooth 271 = .ok (.aload 9, 2) := by decide +kernel
theorem dL_smooth_273 : decode cL_smooth 273 = .ok (.iload 15, 2) := by decide +kernel
theorem dL_smooth_275 : decode cL_smooth 275 = .ok (.aload 9, 2) := by decide +kernel
theorem dL_smooth_277 : decode cL_smooth 277 = .ok (.iload 15, 2) := by decide +kernel
theorem dL_smooth_279 : decode cL_smooth 279 = .ok (.iconst 1, 1) := by decide +kernel
theorem dL_smooth_280 : decode cL_smooth 280 = .ok (.iadd, 1) := by decide +kernel
theorem dL_smooth_281 : decode cL_smooth 281 = .ok (.laload, 1) := by decide +kernel
theorem dL_smooth_282 : decode cL_smooth 282 = .ok (.lastore, 1) := by decide +kernel
theorem dL_smooth_283 : decode cL_smooth 283 = .ok (.aload 10, 2) := by decide +kernel
theorem dL_smooth_285 : decode cL_smooth 285 = .ok (.iload 15, 2) := by decide +kernel
theorem dL_smooth_287 : decode cL_smooth 287 = .ok (.aload 10, 2) := by decide +kernel
theorem dL_smooth_289 : decode cL_smooth 289 = .ok (.iload 15, 2) := by decide +kernel
theorem dL_smooth_291 : decode cL_smooth 291 = .ok (.iconst 1, 1) := by decide +kernel
theorem dL_smooth_292 : decode cL_smooth 292 = .ok (.iadd, 1) := by decide +kernel
theorem dL_smooth_293 : decode cL_smooth 293 = .ok (.iaload, 1) := by decide +kernel
theorem dL_smooth_294 : decode cL_smooth 294 = .ok (.iastore, 1) := by decide +kernel
theorem dL_smooth_295 : decode cL_smooth 295 = .ok (.iinc 15 1, 3) := by decide +kernel
theorem dL_smooth_298 : decode cL_smooth 298 = .ok (.goto (-46), 3) := by decide +kernel
theorem dL_smooth_301 : decode cL_smooth 301 = .ok (.iconst 1, 1) := by decide +kernel
theorem dL_smooth_302 : decode cL_smooth 302 = .ok (.istore 12, 2) := by decide +kernel
theorem dL_smooth_304 : decode cL_smooth 304 = .ok (.goto (-218), 3) := by decide +kernel
theorem dL_smooth_307 : decode cL_smooth 307 = .ok (.iconst 0, 1) := by decide +kernel
theorem dL_smooth_308 : decode cL_smooth 308 = .ok (.istore 12, 2) := by decide +kernel
theorem dL_smooth_310 : decode cL_smooth 310 = .ok (.iconst 0, 1) := by decide +kernel
theorem dL_smooth_311 : decode cL_smooth 311 = .ok (.istore 13, 2) := by decide +kernel
theorem dL_smooth_313 : decode cL_smooth 313 = .ok (.iconst 0, 1) := by decide +kernel
theorem dL_smooth_314 : decode cL_smooth 314 = .ok (.istore 14, 2) := by decide +kernel
theorem dL_smooth_316 : decode cL_smooth 316 = .ok (.iload 14, 2) := by decide +kernel
theorem dL_smooth_318 : decode cL_smooth 318 = .ok (.iload 11, 2) := by decide +kernel
theorem dL_smooth_320 : decode cL_smooth 320 = .ok (.if_icmp .ge 77, 3) := by decide +kernel
theorem dL_smooth_323 : decode cL_smooth 323 = .ok (.iconst 0, 1) := by decide +kernel
theorem dL_smooth_324 : decode cL_smooth 324 = .ok (.istore 15, 2) := by decide +kernel
theorem dL_smooth_326 : decode cL_smooth 326 = .ok (.iload 15, 2) := by decide +kernel
theorem dL_smooth_328 : decode cL_smooth 328 = .ok (.aload 10, 2) := by decide +kernel
theorem dL_smooth_330 : decode cL_smooth 330 = .ok (.iload 14, 2) := by decide +kernel
theorem dL_smooth_332 : decode cL_smooth 332 = .ok (.iaload, 1) := by decide +kernel
theorem dL_smooth_333 : decode cL_smooth 333 = .ok (.if_icmp .ge 58, 3) := by decide +kernel
theorem dL_smooth_336 : decode cL_smooth 336 = .ok (.iload 12, 2) := by decide +kernel
theorem dL_smooth_338 : decode cL_smooth 338 = .ok (.aload 5, 2) := by decide +kernel
theorem dL_smooth_340 : decode cL_smooth 340 = .ok (.iconst 4, 1) := by decide +kernel
theorem dL_smooth_341 : decode cL_smooth 341 = .ok (.iload 7, 2) := by decide +kernel
theorem dL_smooth_343 : decode cL_smooth 343 = .ok (.imul, 1) := by decide +kernel
theorem dL_smooth_344 : decode cL_smooth 344 = .ok (.iload 13, 2) := by decide +kernel
theorem dL_smooth_346 : decode cL_smooth 346 = .ok (.iadd, 1) := by decide +kernel
theorem dL_smooth_347 : decode cL_smooth 347 = .ok (.iaload, 1) := by decide +kernel
theorem dL_smooth_348 : decode cL_smooth 348 = .ok (.i2l, 1) := by decide +kernel
theorem dL_smooth_349 : decode cL_smooth 349 = .ok (.aload 8, 2) := by decide +kernel
theorem dL_smooth_351 : decode cL_smooth 351 = .ok (.iload 14, 2) := by decide +kernel
theorem dL_smooth_353 : decode cL_smooth 353 = .ok (.laload, 1) := by decide +kernel
theorem dL_smooth_354 : decode cL_smooth 354 = .ok (.lcmp, 1) := by decide +kernel
theorem dL_smooth_355 : decode cL_smooth 355 = .ok (.ifCond .ne 7, 3) := by decide +kernel
theorem dL_smooth_358 : decode cL_smooth 358 = .ok (.iconst 0, 1) := by decide +kernel
theorem dL_smooth_359 : decode cL_smooth 359 = .ok (.goto 4, 3) := by decide +kernel
theorem dL_smooth_362 : decode cL_smooth 362 = .ok (.iconst 1, 1) := by decide +kernel
theorem dL_smooth_363 : decode cL_smooth 363 = .ok (.iadd, 1) := by decide +kernel
theorem dL_smooth_364 : decode cL_smooth 364 = .ok (.istore 12, 2) := by decide +kernel
theorem dL_smooth_366 : decode cL_smooth 366 = .ok (.aload 5, 2) := by decide +kernel
theorem dL_smooth_368 : decode cL_smooth 368 = .ok (.iconst 4, 1) := by decide +kernel
theorem dL_smooth_369 : decode cL_smooth 369 = .ok (.iload 7, 2) := by decide +kernel
theorem dL_smooth_371 : decode cL_smooth 371 = .ok (.imul, 1) := by decide +kernel
theorem dL_smooth_372 : decode cL_smooth 372 = .ok (.iload 13, 2) := by decide +kernel
theorem dL_smooth_374 : decode cL_smooth 374 = .ok (.iadd, 1) := by decide +kernel
theorem dL_smooth_375 : decode cL_smooth 375 = .ok (.aload 8, 2) := by decide +kernel
theorem dL_smooth_377 : decode cL_smooth 377 = .ok (.iload 14, 2) := by decide +kernel
theorem dL_smooth_379 : decode cL_smooth 379 = .ok (.laload, 1) := by decide +kernel
theorem dL_smooth_380 : decode cL_smooth 380 = .ok (.l2i, 1) := by decide +kernel
theorem dL_smooth_381 : decode cL_smooth 381 = .ok (.iastore, 1) := by decide +kernel
theorem dL_smooth_382 : decode cL_smooth 382 = .ok (.iinc 13 1, 3) := by decide +kernel
theorem dL_smooth_385 : decode cL_smooth 385 = .ok (.iinc 15 1, 3) := by decide +kernel
theorem dL_smooth_388 : decode cL_smooth 388 = .ok (.goto (-62), 3) := by decide +kernel
theorem dL_smooth_391 : decode cL_smooth 391 = .ok (.iinc 14 1, 3) := by decide +kernel
theorem dL_smooth_394 : decode cL_smooth 394 = .ok (.goto (-78), 3) := by decide +kernel
theorem dL_smooth_397 : decode cL_smooth 397 = .ok (.iload 12, 2) := by decide +kernel
theorem dL_smooth_399 : decode cL_smooth 399 = .ok (.ireturn, 1) := by decide +kernel
theorem dL_capped_0 : decode cL_capped 0 = .ok (.aload_n 0, 1) := by decide +kernel
theorem dL_capped_1 : decode cL_capped 1 = .ok (.aload_n 1, 1) := by decide +kernel
theorem dL_capped_2 : decode cL_capped 2 = .ok (.aload 5, 2) := by decide +kernel
theorem dL_capped_4 : decode cL_capped 4 = .ok (.iload 7, 2) := by decide +kernel
theorem dL_capped_6 : decode cL_capped 6 = .ok (.aload_n 1, 1) := by decide +kernel
theorem dL_capped_7 : decode cL_capped 7 = .ok (.aload_n 2, 1) := by decide +kernel
theorem dL_capped_8 : decode cL_capped 8 = .ok (.aload 4, 2) := by decide +kernel
theorem dL_capped_10 : decode cL_capped 10 = .ok (.aload 6, 2) := by decide +kernel
theorem dL_capped_12 : decode cL_capped 12 = .ok (.invokestatic 11, 3) := by decide +kernel
theorem dL_capped_15 : decode cL_capped 15 = .ok (.invokestatic 17, 3) := by decide +kernel
theorem dL_capped_18 : decode cL_capped 18 = .ok (.aload 6, 2) := by decide +kernel
theorem dL_capped_20 : decode cL_capped 20 = .ok (.iconst 3, 1) := by decide +kernel
theorem dL_capped_21 : decode cL_capped 21 = .ok (.iaload, 1) := by decide +kernel
theorem dL_capped_22 : decode cL_capped 22 = .ok (.i2l, 1) := by decide +kernel
theorem dL_capped_23 : decode cL_capped 23 = .ok (.lmul, 1) := by decide +kernel
theorem dL_capped_24 : decode cL_capped 24 = .ok (.ldc2_w 9, 3) := by decide +kernel
theorem dL_capped_27 : decode cL_capped 27 = .ok (.ldiv, 1) := by decide +kernel
theorem dL_capped_28 : decode cL_capped 28 = .ok (.lstore 8, 2) := by decide +kernel
theorem dL_capped_30 : decode cL_capped 30 = .ok (.aload 6, 2) := by decide +kernel
theorem dL_capped_32 : decode cL_capped 32 = .ok (.iconst 2, 1) := by decide +kernel
theorem dL_capped_33 : decode cL_capped 33 = .ok (.iaload, 1) := by decide +kernel
theorem dL_capped_34 : decode cL_capped 34 = .ok (.ifCond .lt 10, 3) := by decide +kernel
theorem dL_capped_37 : decode cL_capped 37 = .ok (.aload_n 3, 1) := by decide +kernel
