/-! the law's code -/
abbrev xc_LW_law : ByteArray := code
theorem xd_LW_law_0 : decode xc_LW_law 0 = .ok (.new 8, 3) := by decide +kernel
theorem xd_LW_law_3 : decode xc_LW_law 3 = .ok (.dup, 1) := by decide +kernel
theorem xd_LW_law_4 : decode xc_LW_law 4 = .ok (.invokespecial 52, 3) := by decide +kernel
theorem xd_LW_law_7 : decode xc_LW_law 7 = .ok (.astore_n 1, 1) := by decide +kernel
theorem xd_LW_law_8 : decode xc_LW_law 8 = .ok (.new 53, 3) := by decide +kernel
theorem xd_LW_law_11 : decode xc_LW_law 11 = .ok (.dup, 1) := by decide +kernel
theorem xd_LW_law_12 : decode xc_LW_law 12 = .ok (.invokespecial 55, 3) := by decide +kernel
theorem xd_LW_law_15 : decode xc_LW_law 15 = .ok (.astore_n 2, 1) := by decide +kernel
theorem xd_LW_law_16 : decode xc_LW_law 16 = .ok (.iconst 1, 1) := by decide +kernel
theorem xd_LW_law_17 : decode xc_LW_law 17 = .ok (.newarray .long, 2) := by decide +kernel
theorem xd_LW_law_19 : decode xc_LW_law 19 = .ok (.astore_n 3, 1) := by decide +kernel
theorem xd_LW_law_20 : decode xc_LW_law 20 = .ok (.iconst 0, 1) := by decide +kernel
theorem xd_LW_law_21 : decode xc_LW_law 21 = .ok (.istore 4, 2) := by decide +kernel
theorem xd_LW_law_23 : decode xc_LW_law 23 = .ok (.iload 4, 2) := by decide +kernel
theorem xd_LW_law_25 : decode xc_LW_law 25 = .ok (.aload_n 0, 1) := by decide +kernel
theorem xd_LW_law_26 : decode xc_LW_law 26 = .ok (.arraylength, 1) := by decide +kernel
theorem xd_LW_law_27 : decode xc_LW_law 27 = .ok (.iconst 4, 1) := by decide +kernel
theorem xd_LW_law_28 : decode xc_LW_law 28 = .ok (.isub, 1) := by decide +kernel
theorem xd_LW_law_29 : decode xc_LW_law 29 = .ok (.if_icmp .gt 932, 3) := by decide +kernel
theorem xd_LW_law_32 : decode xc_LW_law 32 = .ok (.aload_n 0, 1) := by decide +kernel
theorem xd_LW_law_33 : decode xc_LW_law 33 = .ok (.iload 4, 2) := by decide +kernel
theorem xd_LW_law_35 : decode xc_LW_law 35 = .ok (.iaload, 1) := by decide +kernel
theorem xd_LW_law_36 : decode xc_LW_law 36 = .ok (.bipush 15, 2) := by decide +kernel
theorem xd_LW_law_38 : decode xc_LW_law 38 = .ok (.iand, 1) := by decide +kernel
theorem xd_LW_law_39 : decode xc_LW_law 39 = .ok (.tableswitch 916 0 11 #[61, 148, 235, 311, 411, 467, 563, 643, 699, 779, 835, 891], 61) := by decide +kernel
theorem xd_LW_law_100 : decode xc_LW_law 100 = .ok (.aload_n 1, 1) := by decide +kernel
theorem xd_LW_law_101 : decode xc_LW_law 101 = .ok (.aload_n 0, 1) := by decide +kernel
theorem xd_LW_law_102 : decode xc_LW_law 102 = .ok (.iload 4, 2) := by decide +kernel
theorem xd_LW_law_104 : decode xc_LW_law 104 = .ok (.iconst 1, 1) := by decide +kernel
theorem xd_LW_law_105 : decode xc_LW_law 105 = .ok (.iadd, 1) := by decide +kernel
theorem xd_LW_law_106 : decode xc_LW_law 106 = .ok (.iaload, 1) := by decide +kernel
theorem xd_LW_law_107 : decode xc_LW_law 107 = .ok (.aload_n 0, 1) := by decide +kernel
theorem xd_LW_law_108 : decode xc_LW_law 108 = .ok (.iload 4, 2) := by decide +kernel
theorem xd_LW_law_110 : decode xc_LW_law 110 = .ok (.iconst 2, 1) := by decide +kernel
theorem xd_LW_law_111 : decode xc_LW_law 111 = .ok (.iadd, 1) := by decide +kernel
theorem xd_LW_law_112 : decode xc_LW_law 112 = .ok (.iaload, 1) := by decide +kernel
theorem xd_LW_law_113 : decode xc_LW_law 113 = .ok (.aload_n 0, 1) := by decide +kernel
theorem xd_LW_law_114 : decode xc_LW_law 114 = .ok (.iload 4, 2) := by decide +kernel
theorem xd_LW_law_116 : decode xc_LW_law 116 = .ok (.iconst 3, 1) := by decide +kernel
theorem xd_LW_law_117 : decode xc_LW_law 117 = .ok (.iadd, 1) := by decide +kernel
theorem xd_LW_law_118 : decode xc_LW_law 118 = .ok (.iaload, 1) := by decide +kernel
theorem xd_LW_law_119 : decode xc_LW_law 119 = .ok (.aload_n 3, 1) := by decide +kernel
theorem xd_LW_law_120 : decode xc_LW_law 120 = .ok (.invokestatic 56, 3) := by decide +kernel
theorem xd_LW_law_123 : decode xc_LW_law 123 = .ok (.istore 5, 2) := by decide +kernel
theorem xd_LW_law_125 : decode xc_LW_law 125 = .ok (.aload_n 2, 1) := by decide +kernel
theorem xd_LW_law_126 : decode xc_LW_law 126 = .ok (.aload_n 0, 1) := by decide +kernel
theorem xd_LW_law_127 : decode xc_LW_law 127 = .ok (.iload 4, 2) := by decide +kernel
theorem xd_LW_law_129 : decode xc_LW_law 129 = .ok (.iconst 1, 1) := by decide +kernel
theorem xd_LW_law_130 : decode xc_LW_law 130 = .ok (.iadd, 1) := by decide +kernel
theorem xd_LW_law_131 : decode xc_LW_law 131 = .ok (.iaload, 1) := by decide +kernel
theorem xd_LW_law_132 : decode xc_LW_law 132 = .ok (.aload_n 0, 1) := by decide +kernel
theorem xd_LW_law_133 : decode xc_LW_law 133 = .ok (.iload 4, 2) := by decide +kernel
theorem xd_LW_law_135 : decode xc_LW_law 135 = .ok (.iconst 2, 1) := by decide +kernel
theorem xd_LW_law_136 : decode xc_LW_law 136 = .ok (.iadd, 1) := by decide +kernel
theorem xd_LW_law_137 : decode xc_LW_law 137 = .ok (.iaload, 1) := by decide +kernel
theorem xd_LW_law_138 : decode xc_LW_law 138 = .ok (.aload_n 0, 1) := by decide +kernel
theorem xd_LW_law_139 : decode xc_LW_law 139 = .ok (.iload 4, 2) := by decide +kernel
theorem xd_LW_law_141 : decode xc_LW_law 141 = .ok (.iconst 3, 1) := by decide +kernel
theorem xd_LW_law_142 : decode xc_LW_law 142 = .ok (.iadd, 1) := by decide +kernel
theorem xd_LW_law_143 : decode xc_LW_law 143 = .ok (.iaload, 1) := by decide +kernel
theorem xd_LW_law_144 : decode xc_LW_law 144 = .ok (.invokevirtual 61, 3) := by decide +kernel
theorem xd_LW_law_147 : decode xc_LW_law 147 = .ok (.istore 6, 2) := by decide +kernel
theorem xd_LW_law_149 : decode xc_LW_law 149 = .ok (.aload_n 2, 1) := by decide +kernel
theorem xd_LW_law_150 : decode xc_LW_law 150 = .ok (.invokevirtual 62, 3) := by decide +kernel
theorem xd_LW_law_153 : decode xc_LW_law 153 = .ok (.iload 5, 2) := by decide +kernel
theorem xd_LW_law_155 : decode xc_LW_law 155 = .ok (.if_icmp .eq 5, 3) := by decide +kernel
theorem xd_LW_law_158 : decode xc_LW_law 158 = .ok (.iconst 0, 1) := by decide +kernel
theorem xd_LW_law_159 : decode xc_LW_law 159 = .ok (.ireturn, 1) := by decide +kernel
theorem xd_LW_law_160 : decode xc_LW_law 160 = .ok (.iload 5, 2) := by decide +kernel
theorem xd_LW_law_162 : decode xc_LW_law 162 = .ok (.ifCond .ne 22, 3) := by decide +kernel
theorem xd_LW_law_165 : decode xc_LW_law 165 = .ok (.aload_n 3, 1) := by decide +kernel
theorem xd_LW_law_166 : decode xc_LW_law 166 = .ok (.iconst 0, 1) := by decide +kernel
theorem xd_LW_law_167 : decode xc_LW_law 167 = .ok (.laload, 1) := by decide +kernel
theorem xd_LW_law_168 : decode xc_LW_law 168 = .ok (.iload 6, 2) := by decide +kernel
theorem xd_LW_law_170 : decode xc_LW_law 170 = .ok (.ifCond .eq 7, 3) := by decide +kernel
theorem xd_LW_law_173 : decode xc_LW_law 173 = .ok (.lconst 1, 1) := by decide +kernel
theorem xd_LW_law_174 : decode xc_LW_law 174 = .ok (.goto 4, 3) := by decide +kernel
theorem xd_LW_law_177 : decode xc_LW_law 177 = .ok (.lconst 0, 1) := by decide +kernel
theorem xd_LW_law_178 : decode xc_LW_law 178 = .ok (.lcmp, 1) := by decide +kernel
theorem xd_LW_law_179 : decode xc_LW_law 179 = .ok (.ifCond .eq 5, 3) := by decide +kernel
theorem xd_LW_law_182 : decode xc_LW_law 182 = .ok (.iconst 0, 1) := by decide +kernel
theorem xd_LW_law_183 : decode xc_LW_law 183 = .ok (.ireturn, 1) := by decide +kernel
theorem xd_LW_law_184 : decode xc_LW_law 184 = .ok (.goto 771, 3) := by decide +kernel
theorem xd_LW_law_187 : decode xc_LW_law 187 = .ok (.aload_n 1, 1) := by decide +kernel
theorem xd_LW_law_188 : decode xc_LW_law 188 = .ok (.aload_n 0, 1) := by decide +kernel
theorem xd_LW_law_189 : decode xc_LW_law 189 = .ok (.iload 4, 2) := by decide +kernel
theorem xd_LW_law_191 : decode xc_LW_law 191 = .ok (.iconst 1, 1) := by decide +kernel
theorem xd_LW_law_192 : decode xc_LW_law 192 = .ok (.iadd, 1) := by decide +kernel
theorem xd_LW_law_193 : decode xc_LW_law 193 = .ok (.iaload, 1) := by decide +kernel
theorem xd_LW_law_194 : decode xc_LW_law 194 = .ok (.aload_n 0, 1) := by decide +kernel
theorem xd_LW_law_195 : decode xc_LW_law 195 = .ok (.iload 4, 2) := by decide +kernel
theorem xd_LW_law_197 : decode xc_LW_law 197 = .ok (.iconst 2, 1) := by decide +kernel
theorem xd_LW_law_198 : decode xc_LW_law 198 = .ok (.iadd, 1) := by decide +kernel
theorem xd_LW_law_199 : decode xc_LW_law 199 = .ok (.iaload, 1) := by decide +kernel
theorem xd_LW_law_200 : decode xc_LW_law 200 = .ok (.aload_n 0, 1) := by decide +kernel
theorem xd_LW_law_201 : decode xc_LW_law 201 = .ok (.iload 4, 2) := by decide +kernel
theorem xd_LW_law_203 : decode xc_LW_law 203 = .ok (.iconst 3, 1) := by decide +kernel
theorem xd_LW_law_204 : decode xc_LW_law 204 = .ok (.iadd, 1) := by decide +kernel
theorem xd_LW_law_205 : decode xc_LW_law 205 = .ok (.iaload, 1) := by decide +kernel
theorem xd_LW_law_206 : decode xc_LW_law 206 = .ok (.aload_n 3, 1) := by decide +kernel
theorem xd_LW_law_207 : decode xc_LW_law 207 = .ok (.invokestatic 66, 3) := by decide +kernel
theorem xd_LW_law_210 : decode xc_LW_law 210 = .ok (.istore 5, 2) := by decide +kernel
theorem xd_LW_law_212 : decode xc_LW_law 212 = .ok (.aload_n 2, 1) := by decide +kernel
theorem xd_LW_law_213 : decode xc_LW_law 213 = .ok (.aload_n 0, 1) := by decide +kernel
theorem xd_LW_law_214 : decode xc_LW_law 214 = .ok (.iload 4, 2) := by decide +kernel
theorem xd_LW_law_216 : decode xc_LW_law 216 = .ok (.iconst 1, 1) := by decide +kernel
theorem xd_LW_law_217 : decode xc_LW_law 217 = .ok (.iadd, 1) := by decide +kernel
theorem xd_LW_law_218 : decode xc_LW_law 218 = .ok (.iaload, 1) := by decide +kernel
theorem xd_LW_law_219 : decode xc_LW_law 219 = .ok (.aload_n 0, 1) := by decide +kernel
theorem xd_LW_law_220 : decode xc_LW_law 220 = .ok (.iload 4, 2) := by decide +kernel
theorem xd_LW_law_222 : decode xc_LW_law 222 = .ok (.iconst 2, 1) := by decide +kernel
theorem xd_LW_law_223 : decode xc_LW_law 223 = .ok (.iadd, 1) := by decide +kernel
theorem xd_LW_law_224 : decode xc_LW_law 224 = .ok (.iaload, 1) := by decide +kernel
theorem xd_LW_law_225 : decode xc_LW_law 225 = .ok (.aload_n 0, 1) := by decide +kernel
theorem xd_LW_law_226 : decode xc_LW_law 226 = .ok (.iload 4, 2) := by decide +kernel
theorem xd_LW_law_228 : decode xc_LW_law 228 = .ok (.iconst 3, 1) := by decide +kernel
theorem xd_LW_law_229 : decode xc_LW_law 229 = .ok (.iadd, 1) := by decide +kernel
theorem xd_LW_law_230 : decode xc_LW_law 230 = .ok (.iaload, 1) := by decide +kernel
theorem xd_LW_law_231 : decode xc_LW_law 231 = .ok (.invokevirtual 68, 3) := by decide +kernel
theorem xd_LW_law_234 : decode xc_LW_law 234 = .ok (.istore 6, 2) := by decide +kernel
theorem xd_LW_law_236 : decode xc_LW_law 236 = .ok (.aload_n 2, 1) := by decide +kernel
theorem xd_LW_law_237 : decode xc_LW_law 237 = .ok (.invokevirtual 62, 3) := by decide +kernel
theorem xd_LW_law_240 : decode xc_LW_law 240 = .ok (.iload 5, 2) := by decide +kernel
theorem xd_LW_law_242 : decode xc_LW_law 242 = .ok (.if_icmp .eq 5, 3) := by decide +kernel
theorem xd_LW_law_245 : decode xc_LW_law 245 = .ok (.iconst 0, 1) := by decide +kernel
theorem xd_LW_law_246 : decode xc_LW_law 246 = .ok (.ireturn, 1) := by decide +kernel
theorem xd_LW_law_247 : decode xc_LW_law 247 = .ok (.iload 5, 2) := by decide +kernel
theorem xd_LW_law_249 : decode xc_LW_law 249 = .ok (.ifCond .ne 22, 3) := by decide +kernel
theorem xd_LW_law_252 : decode xc_LW_law 252 = .ok (.aload_n 3, 1) := by decide +kernel
theorem xd_LW_law_253 : decode xc_LW_law 253 = .ok (.iconst 0, 1) := by decide +kernel
theorem xd_LW_law_254 : decode xc_LW_law 254 = .ok (.laload, 1) := by decide +kernel
theorem xd_LW_law_255 : decode xc_LW_law 255 = .ok (.iload 6, 2) := by decide +kernel
theorem xd_LW_law_257 : decode xc_LW_law 257 = .ok (.ifCond .eq 7, 3) := by decide +kernel
theorem xd_LW_law_260 : decode xc_LW_law 260 = .ok (.lconst 1, 1) := by decide +kernel
theorem xd_LW_law_261 : decode xc_LW_law 261 = .ok (.goto 4, 3) := by decide +kernel
theorem xd_LW_law_264 : decode xc_LW_law 264 = .ok (.lconst 0, 1) := by decide +kernel
theorem xd_LW_law_265 : decode xc_LW_law 265 = .ok (.lcmp, 1) := by decide +kernel
theorem xd_LW_law_266 : decode xc_LW_law 266 = .ok (.ifCond .eq 5, 3) := by decide +kernel
theorem xd_LW_law_269 : decode xc_LW_law 269 = .ok (.iconst 0, 1) := by decide +kernel
theorem xd_LW_law_270 : decode xc_LW_law 270 = .ok (.ireturn, 1) := by decide +kernel
theorem xd_LW_law_271 : decode xc_LW_law 271 = .ok (.goto 684, 3) := by decide +kernel
theorem xd_LW_law_274 : decode xc_LW_law 274 = .ok (.aload_n 1, 1) := by decide +kernel
theorem xd_LW_law_275 : decode xc_LW_law 275 = .ok (.aload_n 0, 1) := by decide +kernel
theorem xd_LW_law_276 : decode xc_LW_law 276 = .ok (.iload 4, 2) := by decide +kernel
theorem xd_LW_law_278 : decode xc_LW_law 278 = .ok (.iconst 1, 1) := by decide +kernel
theorem xd_LW_law_279 : decode xc_LW_law 279 = .ok (.iadd, 1) := by decide +kernel
theorem xd_LW_law_280 : decode xc_LW_law 280 = .ok (.iaload, 1) := by decide +kernel
theorem xd_LW_law_281 : decode xc_LW_law 281 = .ok (.aload_n 0, 1) := by decide +kernel
theorem xd_LW_law_282 : decode xc_LW_law 282 = .ok (.iload 4, 2) := by decide +kernel
theorem xd_LW_law_284 : decode xc_LW_law 284 = .ok (.iconst 2, 1) := by decide +kernel
theorem xd_LW_law_285 : decode xc_LW_law 285 = .ok (.iadd, 1) := by decide +kernel
theorem xd_LW_law_286 : decode xc_LW_law 286 = .ok (.iaload, 1) := by decide +kernel
theorem xd_LW_law_287 : decode xc_LW_law 287 = .ok (.aload_n 0, 1) := by decide +kernel
theorem xd_LW_law_288 : decode xc_LW_law 288 = .ok (.iload 4, 2) := by decide +kernel
theorem xd_LW_law_290 : decode xc_LW_law 290 = .ok (.iconst 3, 1) := by decide +kernel
theorem xd_LW_law_291 : decode xc_LW_law 291 = .ok (.iadd, 1) := by decide +kernel
theorem xd_LW_law_292 : decode xc_LW_law 292 = .ok (.iaload, 1) := by decide +kernel
theorem xd_LW_law_293 : decode xc_LW_law 293 = .ok (.ifCond .eq 7, 3) := by decide +kernel
theorem xd_LW_law_296 : decode xc_LW_law 296 = .ok (.iconst 1, 1) := by decide +kernel
theorem xd_LW_law_297 : decode xc_LW_law 297 = .ok (.goto 4, 3) := by decide +kernel
theorem xd_LW_law_300 : decode xc_LW_law 300 = .ok (.iconst 0, 1) := by decide +kernel
theorem xd_LW_law_301 : decode xc_LW_law 301 = .ok (.invokestatic 69, 3) := by decide +kernel
theorem xd_LW_law_304 : decode xc_LW_law 304 = .ok (.istore 5, 2) := by decide +kernel
theorem xd_LW_law_306 : decode xc_LW_law 306 = .ok (.aload_n 2, 1) := by decide +kernel
theorem xd_LW_law_307 : decode xc_LW_law 307 = .ok (.aload_n 0, 1) := by decide +kernel
theorem xd_LW_law_308 : decode xc_LW_law 308 = .ok (.iload 4, 2) := by decide +kernel
theorem xd_LW_law_310 : decode xc_LW_law 310 = .ok (.iconst 1, 1) := by decide +kernel
theorem xd_LW_law_311 : decode xc_LW_law 311 = .ok (.iadd, 1) := by decide +kernel
theorem xd_LW_law_312 : decode xc_LW_law 312 = .ok (.iaload, 1) := by decide +kernel
theorem xd_LW_law_313 : decode xc_LW_law 313 = .ok (.aload_n 0, 1) := by decide +kernel
theorem xd_LW_law_314 : decode xc_LW_law 314 = .ok (.iload 4, 2) := by decide +kernel
theorem xd_LW_law_316 : decode xc_LW_law 316 = .ok (.iconst 2, 1) := by decide +kernel
theorem xd_LW_law_317 : decode xc_LW_law 317 = .ok (.iadd, 1) := by decide +kernel
theorem xd_LW_law_318 : decode xc_LW_law 318 = .ok (.iaload, 1) := by decide +kernel
theorem xd_LW_law_319 : decode xc_LW_law 319 = .ok (.aload_n 0, 1) := by decide +kernel
theorem xd_LW_law_320 : decode xc_LW_law 320 = .ok (.iload 4, 2) := by decide +kernel
theorem xd_LW_law_322 : decode xc_LW_law 322 = .ok (.iconst 3, 1) := by decide +kernel
theorem xd_LW_law_323 : decode xc_LW_law 323 = .ok (.iadd, 1) := by decide +kernel
theorem xd_LW_law_324 : decode xc_LW_law 324 = .ok (.iaload, 1) := by decide +kernel
theorem xd_LW_law_325 : decode xc_LW_law 325 = .ok (.ifCond .eq 7, 3) := by decide +kernel
theorem xd_LW_law_328 : decode xc_LW_law 328 = .ok (.iconst 1, 1) := by decide +kernel
theorem xd_LW_law_329 : decode xc_LW_law 329 = .ok (.goto 4, 3) := by decide +kernel
theorem xd_LW_law_332 : decode xc_LW_law 332 = .ok (.iconst 0, 1) := by decide +kernel
theorem xd_LW_law_333 : decode xc_LW_law 333 = .ok (.invokevirtual 72, 3) := by decide +kernel
theorem xd_LW_law_336 : decode xc_LW_law 336 = .ok (.aload_n 2, 1) := by decide +kernel
theorem xd_LW_law_337 : decode xc_LW_law 337 = .ok (.invokevirtual 62, 3) := by decide +kernel
theorem xd_LW_law_340 : decode xc_LW_law 340 = .ok (.iload 5, 2) := by decide +kernel
theorem xd_LW_law_342 : decode xc_LW_law 342 = .ok (.if_icmp .eq 5, 3) := by decide +kernel
theorem xd_LW_law_345 : decode xc_LW_law 345 = .ok (.iconst 0, 1) := by decide +kernel
theorem xd_LW_law_346 : decode xc_LW_law 346 = .ok (.ireturn, 1) := by decide +kernel
theorem xd_LW_law_347 : decode xc_LW_law 347 = .ok (.goto 608, 3) := by decide +kernel
theorem xd_LW_law_350 : decode xc_LW_law 350 = .ok (.aload_n 1, 1) := by decide +kernel
theorem xd_LW_law_351 : decode xc_LW_law 351 = .ok (.aload_n 0, 1) := by decide +kernel
theorem xd_LW_law_352 : decode xc_LW_law 352 = .ok (.iload 4, 2) := by decide +kernel
theorem xd_LW_law_354 : decode xc_LW_law 354 = .ok (.iconst 1, 1) := by decide +kernel
theorem xd_LW_law_355 : decode xc_LW_law 355 = .ok (.iadd, 1) := by decide +kernel
theorem xd_LW_law_356 : decode xc_LW_law 356 = .ok (.iaload, 1) := by decide +kernel
theorem xd_LW_law_357 : decode xc_LW_law 357 = .ok (.i2l, 1) := by decide +kernel
theorem xd_LW_law_358 : decode xc_LW_law 358 = .ok (.bipush 32, 2) := by decide +kernel
theorem xd_LW_law_360 : decode xc_LW_law 360 = .ok (.lshl, 1) := by decide +kernel
theorem xd_LW_law_361 : decode xc_LW_law 361 = .ok (.aload_n 0, 1) := by decide +kernel
theorem xd_LW_law_362 : decode xc_LW_law 362 = .ok (.iload 4, 2) := by decide +kernel
theorem xd_LW_law_364 : decode xc_LW_law 364 = .ok (.iconst 2, 1) := by decide +kernel
theorem xd_LW_law_365 : decode xc_LW_law 365 = .ok (.iadd, 1) := by decide +kernel
theorem xd_LW_law_366 : decode xc_LW_law 366 = .ok (.iaload, 1) := by decide +kernel
theorem xd_LW_law_367 : decode xc_LW_law 367 = .ok (.i2l, 1) := by decide +kernel
theorem xd_LW_law_368 : decode xc_LW_law 368 = .ok (.ldc2_w 73, 3) := by decide +kernel
theorem xd_LW_law_371 : decode xc_LW_law 371 = .ok (.land, 1) := by decide +kernel
theorem xd_LW_law_372 : decode xc_LW_law 372 = .ok (.lor, 1) := by decide +kernel
theorem xd_LW_law_373 : decode xc_LW_law 373 = .ok (.aload_n 0, 1) := by decide +kernel
theorem xd_LW_law_374 : decode xc_LW_law 374 = .ok (.iload 4, 2) := by decide +kernel
theorem xd_LW_law_376 : decode xc_LW_law 376 = .ok (.iconst 3, 1) := by decide +kernel
theorem xd_LW_law_377 : decode xc_LW_law 377 = .ok (.iadd, 1) := by decide +kernel
theorem xd_LW_law_378 : decode xc_LW_law 378 = .ok (.iaload, 1) := by decide +kernel
theorem xd_LW_law_379 : decode xc_LW_law 379 = .ok (.aload_n 3, 1) := by decide +kernel
theorem xd_LW_law_380 : decode xc_LW_law 380 = .ok (.invokestatic 75, 3) := by decide +kernel
theorem xd_LW_law_383 : decode xc_LW_law 383 = .ok (.istore 5, 2) := by decide +kernel
theorem xd_LW_law_385 : decode xc_LW_law 385 = .ok (.aload_n 2, 1) := by decide +kernel
theorem xd_LW_law_386 : decode xc_LW_law 386 = .ok (.aload_n 0, 1) := by decide +kernel
theorem xd_LW_law_387 : decode xc_LW_law 387 = .ok (.iload 4, 2) := by decide +kernel
theorem xd_LW_law_389 : decode xc_LW_law 389 = .ok (.iconst 1, 1) := by decide +kernel
theorem xd_LW_law_390 : decode xc_LW_law 390 = .ok (.iadd, 1) := by decide +kernel
theorem xd_LW_law_391 : decode xc_LW_law 391 = .ok (.iaload, 1) := by decide +kernel
theorem xd_LW_law_392 : decode xc_LW_law 392 = .ok (.i2l, 1) := by decide +kernel
theorem xd_LW_law_393 : decode xc_LW_law 393 = .ok (.bipush 32, 2) := by decide +kernel
theorem xd_LW_law_395 : decode xc_LW_law 395 = .ok (.lshl, 1) := by decide +kernel
theorem xd_LW_law_396 : decode xc_LW_law 396 = .ok (.aload_n 0, 1) := by decide +kernel
theorem xd_LW_law_397 : decode xc_LW_law 397 = .ok (.iload 4, 2) := by decide +kernel
theorem xd_LW_law_399 : decode xc_LW_law 399 = .ok (.iconst 2, 1) := by decide +kernel
theorem xd_LW_law_400 : decode xc_LW_law 400 = .ok (.iadd, 1) := by decide +kernel
theorem xd_LW_law_401 : decode xc_LW_law 401 = .ok (.iaload, 1) := by decide +kernel
theorem xd_LW_law_402 : decode xc_LW_law 402 = .ok (.i2l, 1) := by decide +kernel
theorem xd_LW_law_403 : decode xc_LW_law 403 = .ok (.ldc2_w 73, 3) := by decide +kernel
theorem xd_LW_law_406 : decode xc_LW_law 406 = .ok (.land, 1) := by decide +kernel
theorem xd_LW_law_407 : decode xc_LW_law 407 = .ok (.lor, 1) := by decide +kernel
theorem xd_LW_law_408 : decode xc_LW_law 408 = .ok (.aload_n 0, 1) := by decide +kernel
theorem xd_LW_law_409 : decode xc_LW_law 409 = .ok (.iload 4, 2) := by decide +kernel
theorem xd_LW_law_411 : decode xc_LW_law 411 = .ok (.iconst 3, 1) := by decide +kernel
theorem xd_LW_law_412 : decode xc_LW_law 412 = .ok (.iadd, 1) := by decide +kernel
theorem xd_LW_law_413 : decode xc_LW_law 413 = .ok (.iaload, 1) := by decide +kernel
theorem xd_LW_law_414 : decode xc_LW_law 414 = .ok (.invokevirtual 78, 3) := by decide +kernel
theorem xd_LW_law_417 : decode xc_LW_law 417 = .ok (.istore 6, 2) := by decide +kernel
theorem xd_LW_law_419 : decode xc_LW_law 419 = .ok (.aload_n 2, 1) := by decide +kernel
theorem xd_LW_law_420 : decode xc_LW_law 420 = .ok (.invokevirtual 62, 3) := by decide +kernel
theorem xd_LW_law_423 : decode xc_LW_law 423 = .ok (.iload 5, 2) := by decide +kernel
theorem xd_LW_law_425 : decode xc_LW_law 425 = .ok (.if_icmp .eq 5, 3) := by decide +kernel
theorem xd_LW_law_428 : decode xc_LW_law 428 = .ok (.iconst 0, 1) := by decide +kernel
theorem xd_LW_law_429 : decode xc_LW_law 429 = .ok (.ireturn, 1) := by decide +kernel
theorem xd_LW_law_430 : decode xc_LW_law 430 = .ok (.iload 5, 2) := by decide +kernel
theorem xd_LW_law_432 : decode xc_LW_law 432 = .ok (.ifCond .ne 15, 3) := by decide +kernel
theorem xd_LW_law_435 : decode xc_LW_law 435 = .ok (.aload_n 3, 1) := by decide +kernel
theorem xd_LW_law_436 : decode xc_LW_law 436 = .ok (.iconst 0, 1) := by decide +kernel
theorem xd_LW_law_437 : decode xc_LW_law 437 = .ok (.laload, 1) := by decide +kernel
theorem xd_LW_law_438 : decode xc_LW_law 438 = .ok (.iload 6, 2) := by decide +kernel
theorem xd_LW_law_440 : decode xc_LW_law 440 = .ok (.i2l, 1) := by decide +kernel
theorem xd_LW_law_441 : decode xc_LW_law 441 = .ok (.lcmp, 1) := by decide +kernel
theorem xd_LW_law_442 : decode xc_LW_law 442 = .ok (.ifCond .eq 5, 3) := by decide +kernel
theorem xd_LW_law_445 : decode xc_LW_law 445 = .ok (.iconst 0, 1) := by decide +kernel
theorem xd_LW_law_446 : decode xc_LW_law 446 = .ok (.ireturn, 1) := by decide +kernel
theorem xd_LW_law_447 : decode xc_LW_law 447 = .ok (.goto 508, 3) := by decide +kernel
theorem xd_LW_law_450 : decode xc_LW_law 450 = .ok (.aload_n 1, 1) := by decide +kernel
theorem xd_LW_law_451 : decode xc_LW_law 451 = .ok (.aload_n 0, 1) := by decide +kernel
theorem xd_LW_law_452 : decode xc_LW_law 452 = .ok (.iload 4, 2) := by decide +kernel
theorem xd_LW_law_454 : decode xc_LW_law 454 = .ok (.iconst 1, 1) := by decide +kernel
theorem xd_LW_law_455 : decode xc_LW_law 455 = .ok (.iadd, 1) := by decide +kernel
theorem xd_LW_law_456 : decode xc_LW_law 456 = .ok (.iaload, 1) := by decide +kernel
theorem xd_LW_law_457 : decode xc_LW_law 457 = .ok (.aload_n 3, 1) := by decide +kernel
theorem xd_LW_law_458 : decode xc_LW_law 458 = .ok (.invokestatic 79, 3) := by decide +kernel
theorem xd_LW_law_461 : decode xc_LW_law 461 = .ok (.istore 5, 2) := by decide +kernel
theorem xd_LW_law_463 : decode xc_LW_law 463 = .ok (.aload_n 2, 1) := by decide +kernel
theorem xd_LW_law_464 : decode xc_LW_law 464 = .ok (.aload_n 0, 1) := by decide +kernel
theorem xd_LW_law_465 : decode xc_LW_law 465 = .ok (.iload 4, 2) := by decide +kernel
theorem xd_LW_law_467 : decode xc_LW_law 467 = .ok (.iconst 1, 1) := by decide +kernel
theorem xd_LW_law_468 : decode xc_LW_law 468 = .ok (.iadd, 1) := by decide +kernel
theorem xd_LW_law_469 : decode xc_LW_law 469 = .ok (.iaload, 1) := by decide +kernel
theorem xd_LW_law_470 : decode xc_LW_law 470 = .ok (.invokevirtual 82, 3) := by decide +kernel
theorem xd_LW_law_473 : decode xc_LW_law 473 = .ok (.istore 6, 2) := by decide +kernel
theorem xd_LW_law_475 : decode xc_LW_law 475 = .ok (.aload_n 2, 1) := by decide +kernel
theorem xd_LW_law_476 : decode xc_LW_law 476 = .ok (.invokevirtual 62, 3) := by decide +kernel
theorem xd_LW_law_479 : decode xc_LW_law 479 = .ok (.iload 5, 2) := by decide +kernel
theorem xd_LW_law_481 : decode xc_LW_law 481 = .ok (.if_icmp .eq 5, 3) := by decide +kernel
theorem xd_LW_law_484 : decode xc_LW_law 484 = .ok (.iconst 0, 1) := by decide +kernel
theorem xd_LW_law_485 : decode xc_LW_law 485 = .ok (.ireturn, 1) := by decide +kernel
theorem xd_LW_law_486 : decode xc_LW_law 486 = .ok (.iload 5, 2) := by decide +kernel
theorem xd_LW_law_488 : decode xc_LW_law 488 = .ok (.ifCond .ne 15, 3) := by decide +kernel
theorem xd_LW_law_491 : decode xc_LW_law 491 = .ok (.aload_n 3, 1) := by decide +kernel
theorem xd_LW_law_492 : decode xc_LW_law 492 = .ok (.iconst 0, 1) := by decide +kernel
theorem xd_LW_law_493 : decode xc_LW_law 493 = .ok (.laload, 1) := by decide +kernel
theorem xd_LW_law_494 : decode xc_LW_law 494 = .ok (.iload 6, 2) := by decide +kernel
theorem xd_LW_law_496 : decode xc_LW_law 496 = .ok (.i2l, 1) := by decide +kernel
theorem xd_LW_law_497 : decode xc_LW_law 497 = .ok (.lcmp, 1) := by decide +kernel
theorem xd_LW_law_498 : decode xc_LW_law 498 = .ok (.ifCond .eq 5, 3) := by decide +kernel
theorem xd_LW_law_501 : decode xc_LW_law 501 = .ok (.iconst 0, 1) := by decide +kernel
theorem xd_LW_law_502 : decode xc_LW_law 502 = .ok (.ireturn, 1) := by decide +kernel
theorem xd_LW_law_503 : decode xc_LW_law 503 = .ok (.goto 452, 3) := by decide +kernel
theorem xd_LW_law_506 : decode xc_LW_law 506 = .ok (.aload_n 1, 1) := by decide +kernel
theorem xd_LW_law_507 : decode xc_LW_law 507 = .ok (.aload_n 0, 1) := by decide +kernel
theorem xd_LW_law_508 : decode xc_LW_law 508 = .ok (.iload 4, 2) := by decide +kernel
theorem xd_LW_law_510 : decode xc_LW_law 510 = .ok (.iconst 1, 1) := by decide +kernel
theorem xd_LW_law_511 : decode xc_LW_law 511 = .ok (.iadd, 1) := by decide +kernel
theorem xd_LW_law_512 : decode xc_LW_law 512 = .ok (.iaload, 1) := by decide +kernel
theorem xd_LW_law_513 : decode xc_LW_law 513 = .ok (.aload_n 0, 1) := by decide +kernel
theorem xd_LW_law_514 : decode xc_LW_law 514 = .ok (.iload 4, 2) := by decide +kernel
theorem xd_LW_law_516 : decode xc_LW_law 516 = .ok (.iconst 2, 1) := by decide +kernel
theorem xd_LW_law_517 : decode xc_LW_law 517 = .ok (.iadd, 1) := by decide +kernel
theorem xd_LW_law_518 : decode xc_LW_law 518 = .ok (.iaload, 1) := by decide +kernel
theorem xd_LW_law_519 : decode xc_LW_law 519 = .ok (.aload_n 0, 1) := by decide +kernel
theorem xd_LW_law_520 : decode xc_LW_law 520 = .ok (.iload 4, 2) := by decide +kernel
theorem xd_LW_law_522 : decode xc_LW_law 522 = .ok (.iconst 3, 1) := by decide +kernel
theorem xd_LW_law_523 : decode xc_LW_law 523 = .ok (.iadd, 1) := by decide +kernel
theorem xd_LW_law_524 : decode xc_LW_law 524 = .ok (.iaload, 1) := by decide +kernel
theorem xd_LW_law_525 : decode xc_LW_law 525 = .ok (.ifCond .eq 7, 3) := by decide +kernel
theorem xd_LW_law_528 : decode xc_LW_law 528 = .ok (.iconst 1, 1) := by decide +kernel
theorem xd_LW_law_529 : decode xc_LW_law 529 = .ok (.goto 4, 3) := by decide +kernel
theorem xd_LW_law_532 : decode xc_LW_law 532 = .ok (.iconst 0, 1) := by decide +kernel
theorem xd_LW_law_533 : decode xc_LW_law 533 = .ok (.aload_n 3, 1) := by decide +kernel
theorem xd_LW_law_534 : decode xc_LW_law 534 = .ok (.invokestatic 83, 3) := by decide +kernel
theorem xd_LW_law_537 : decode xc_LW_law 537 = .ok (.istore 5, 2) := by decide +kernel
theorem xd_LW_law_539 : decode xc_LW_law 539 = .ok (.aload_n 2, 1) := by decide +kernel
theorem xd_LW_law_540 : decode xc_LW_law 540 = .ok (.aload_n 0, 1) := by decide +kernel
theorem xd_LW_law_541 : decode xc_LW_law 541 = .ok (.iload 4, 2) := by decide +kernel
theorem xd_LW_law_543 : decode xc_LW_law 543 = .ok (.iconst 1, 1) := by decide +kernel
theorem xd_LW_law_544 : decode xc_LW_law 544 = .ok (.iadd, 1) := by decide +kernel
theorem xd_LW_law_545 : decode xc_LW_law 545 = .ok (.iaload, 1) := by decide +kernel
theorem xd_LW_law_546 : decode xc_LW_law 546 = .ok (.aload_n 0, 1) := by decide +kernel
theorem xd_LW_law_547 : decode xc_LW_law 547 = .ok (.iload 4, 2) := by decide +kernel
theorem xd_LW_law_549 : decode xc_LW_law 549 = .ok (.iconst 2, 1) := by decide +kernel
theorem xd_LW_law_550 : decode xc_LW_law 550 = .ok (.iadd, 1) := by decide +kernel
theorem xd_LW_law_551 : decode xc_LW_law 551 = .ok (.iaload, 1) := by decide +kernel
theorem xd_LW_law_552 : decode xc_LW_law 552 = .ok (.aload_n 0, 1) := by decide +kernel
theorem xd_LW_law_553 : decode xc_LW_law 553 = .ok (.iload 4, 2) := by decide +kernel
theorem xd_LW_law_555 : decode xc_LW_law 555 = .ok (.iconst 3, 1) := by decide +kernel
theorem xd_LW_law_556 : decode xc_LW_law 556 = .ok (.iadd, 1) := by decide +kernel
theorem xd_LW_law_557 : decode xc_LW_law 557 = .ok (.iaload, 1) := by decide +kernel
theorem xd_LW_law_558 : decode xc_LW_law 558 = .ok (.ifCond .eq 7, 3) := by decide +kernel
theorem xd_LW_law_561 : decode xc_LW_law 561 = .ok (.iconst 1, 1) := by decide +kernel
theorem xd_LW_law_562 : decode xc_LW_law 562 = .ok (.goto 4, 3) := by decide +kernel
theorem xd_LW_law_565 : decode xc_LW_law 565 = .ok (.iconst 0, 1) := by decide +kernel
theorem xd_LW_law_566 : decode xc_LW_law 566 = .ok (.invokevirtual 86, 3) := by decide +kernel
theorem xd_LW_law_569 : decode xc_LW_law 569 = .ok (.istore 6, 2) := by decide +kernel
theorem xd_LW_law_571 : decode xc_LW_law 571 = .ok (.aload_n 2, 1) := by decide +kernel
theorem xd_LW_law_572 : decode xc_LW_law 572 = .ok (.invokevirtual 62, 3) := by decide +kernel
theorem xd_LW_law_575 : decode xc_LW_law 575 = .ok (.iload 5, 2) := by decide +kernel
theorem xd_LW_law_577 : decode xc_LW_law 577 = .ok (.if_icmp .eq 5, 3) := by decide +kernel
theorem xd_LW_law_580 : decode xc_LW_law 580 = .ok (.iconst 0, 1) := by decide +kernel
theorem xd_LW_law_581 : decode xc_LW_law 581 = .ok (.ireturn, 1) := by decide +kernel
theorem xd_LW_law_582 : decode xc_LW_law 582 = .ok (.iload 5, 2) := by decide +kernel
theorem xd_LW_law_584 : decode xc_LW_law 584 = .ok (.ifCond .ne 15, 3) := by decide +kernel
theorem xd_LW_law_587 : decode xc_LW_law 587 = .ok (.aload_n 3, 1) := by decide +kernel
theorem xd_LW_law_588 : decode xc_LW_law 588 = .ok (.iconst 0, 1) := by decide +kernel
theorem xd_LW_law_589 : decode xc_LW_law 589 = .ok (.laload, 1) := by decide +kernel
theorem xd_LW_law_590 : decode xc_LW_law 590 = .ok (.iload 6, 2) := by decide +kernel
theorem xd_LW_law_592 : decode xc_LW_law 592 = .ok (.i2l, 1) := by decide +kernel
theorem xd_LW_law_593 : decode xc_LW_law 593 = .ok (.lcmp, 1) := by decide +kernel
theorem xd_LW_law_594 : decode xc_LW_law 594 = .ok (.ifCond .eq 5, 3) := by decide +kernel
theorem xd_LW_law_597 : decode xc_LW_law 597 = .ok (.iconst 0, 1) := by decide +kernel
theorem xd_LW_law_598 : decode xc_LW_law 598 = .ok (.ireturn, 1) := by decide +kernel
theorem xd_LW_law_599 : decode xc_LW_law 599 = .ok (.goto 356, 3) := by decide +kernel
theorem xd_LW_law_602 : decode xc_LW_law 602 = .ok (.aload_n 1, 1) := by decide +kernel
theorem xd_LW_law_603 : decode xc_LW_law 603 = .ok (.aload_n 0, 1) := by decide +kernel
theorem xd_LW_law_604 : decode xc_LW_law 604 = .ok (.iload 4, 2) := by decide +kernel
theorem xd_LW_law_606 : decode xc_LW_law 606 = .ok (.iconst 1, 1) := by decide +kernel
theorem xd_LW_law_607 : decode xc_LW_law 607 = .ok (.iadd, 1) := by decide +kernel
theorem xd_LW_law_608 : decode xc_LW_law 608 = .ok (.iaload, 1) := by decide +kernel
theorem xd_LW_law_609 : decode xc_LW_law 609 = .ok (.aload_n 0, 1) := by decide +kernel
theorem xd_LW_law_610 : decode xc_LW_law 610 = .ok (.iload 4, 2) := by decide +kernel
theorem xd_LW_law_612 : decode xc_LW_law 612 = .ok (.iconst 2, 1) := by decide +kernel
theorem xd_LW_law_613 : decode xc_LW_law 613 = .ok (.iadd, 1) := by decide +kernel
theorem xd_LW_law_614 : decode xc_LW_law 614 = .ok (.iaload, 1) := by decide +kernel
theorem xd_LW_law_615 : decode xc_LW_law 615 = .ok (.aload_n 0, 1) := by decide +kernel
theorem xd_LW_law_616 : decode xc_LW_law 616 = .ok (.iload 4, 2) := by decide +kernel
theorem xd_LW_law_618 : decode xc_LW_law 618 = .ok (.iconst 3, 1) := by decide +kernel
theorem xd_LW_law_619 : decode xc_LW_law 619 = .ok (.iadd, 1) := by decide +kernel
theorem xd_LW_law_620 : decode xc_LW_law 620 = .ok (.iaload, 1) := by decide +kernel
theorem xd_LW_law_621 : decode xc_LW_law 621 = .ok (.aload_n 3, 1) := by decide +kernel
theorem xd_LW_law_622 : decode xc_LW_law 622 = .ok (.invokestatic 87, 3) := by decide +kernel
theorem xd_LW_law_625 : decode xc_LW_law 625 = .ok (.istore 5, 2) := by decide +kernel
theorem xd_LW_law_627 : decode xc_LW_law 627 = .ok (.aload_n 2, 1) := by decide +kernel
theorem xd_LW_law_628 : decode xc_LW_law 628 = .ok (.aload_n 0, 1) := by decide +kernel
theorem xd_LW_law_629 : decode xc_LW_law 629 = .ok (.iload 4, 2) := by decide +kernel
theorem xd_LW_law_631 : decode xc_LW_law 631 = .ok (.iconst 1, 1) := by decide +kernel
theorem xd_LW_law_632 : decode xc_LW_law 632 = .ok (.iadd, 1) := by decide +kernel
theorem xd_LW_law_633 : decode xc_LW_law 633 = .ok (.iaload, 1) := by decide +kernel
theorem xd_LW_law_634 : decode xc_LW_law 634 = .ok (.aload_n 0, 1) := by decide +kernel
theorem xd_LW_law_635 : decode xc_LW_law 635 = .ok (.iload 4, 2) := by decide +kernel
theorem xd_LW_law_637 : decode xc_LW_law 637 = .ok (.iconst 2, 1) := by decide +kernel
theorem xd_LW_law_638 : decode xc_LW_law 638 = .ok (.iadd, 1) := by decide +kernel
theorem xd_LW_law_639 : decode xc_LW_law 639 = .ok (.iaload, 1) := by decide +kernel
theorem xd_LW_law_640 : decode xc_LW_law 640 = .ok (.aload_n 0, 1) := by decide +kernel
theorem xd_LW_law_641 : decode xc_LW_law 641 = .ok (.iload 4, 2) := by decide +kernel
theorem xd_LW_law_643 : decode xc_LW_law 643 = .ok (.iconst 3, 1) := by decide +kernel
theorem xd_LW_law_644 : decode xc_LW_law 644 = .ok (.iadd, 1) := by decide +kernel
theorem xd_LW_law_645 : decode xc_LW_law 645 = .ok (.iaload, 1) := by decide +kernel
theorem xd_LW_law_646 : decode xc_LW_law 646 = .ok (.invokevirtual 89, 3) := by decide +kernel
theorem xd_LW_law_649 : decode xc_LW_law 649 = .ok (.istore 6, 2) := by decide +kernel
theorem xd_LW_law_651 : decode xc_LW_law 651 = .ok (.aload_n 2, 1) := by decide +kernel
theorem xd_LW_law_652 : decode xc_LW_law 652 = .ok (.invokevirtual 62, 3) := by decide +kernel
theorem xd_LW_law_655 : decode xc_LW_law 655 = .ok (.iload 5, 2) := by decide +kernel
theorem xd_LW_law_657 : decode xc_LW_law 657 = .ok (.if_icmp .eq 5, 3) := by decide +kernel
theorem xd_LW_law_660 : decode xc_LW_law 660 = .ok (.iconst 0, 1) := by decide +kernel
theorem xd_LW_law_661 : decode xc_LW_law 661 = .ok (.ireturn, 1) := by decide +kernel
theorem xd_LW_law_662 : decode xc_LW_law 662 = .ok (.iload 5, 2) := by decide +kernel
theorem xd_LW_law_664 : decode xc_LW_law 664 = .ok (.ifCond .ne 15, 3) := by decide +kernel
theorem xd_LW_law_667 : decode xc_LW_law 667 = .ok (.aload_n 3, 1) := by decide +kernel
theorem xd_LW_law_668 : decode xc_LW_law 668 = .ok (.iconst 0, 1) := by decide +kernel
theorem xd_LW_law_669 : decode xc_LW_law 669 = .ok (.laload, 1) := by decide +kernel
theorem xd_LW_law_670 : decode xc_LW_law 670 = .ok (.iload 6, 2) := by decide +kernel
theorem xd_LW_law_672 : decode xc_LW_law 672 = .ok (.i2l, 1) := by decide +kernel
theorem xd_LW_law_673 : decode xc_LW_law 673 = .ok (.lcmp, 1) := by decide +kernel
theorem xd_LW_law_674 : decode xc_LW_law 674 = .ok (.ifCond .eq 5, 3) := by decide +kernel
theorem xd_LW_law_677 : decode xc_LW_law 677 = .ok (.iconst 0, 1) := by decide +kernel
theorem xd_LW_law_678 : decode xc_LW_law 678 = .ok (.ireturn, 1) := by decide +kernel
theorem xd_LW_law_679 : decode xc_LW_law 679 = .ok (.goto 276, 3) := by decide +kernel
theorem xd_LW_law_682 : decode xc_LW_law 682 = .ok (.aload_n 1, 1) := by decide +kernel
theorem xd_LW_law_683 : decode xc_LW_law 683 = .ok (.aload_n 0, 1) := by decide +kernel
theorem xd_LW_law_684 : decode xc_LW_law 684 = .ok (.iload 4, 2) := by decide +kernel
theorem xd_LW_law_686 : decode xc_LW_law 686 = .ok (.iconst 1, 1) := by decide +kernel
theorem xd_LW_law_687 : decode xc_LW_law 687 = .ok (.iadd, 1) := by decide +kernel
theorem xd_LW_law_688 : decode xc_LW_law 688 = .ok (.iaload, 1) := by decide +kernel
theorem xd_LW_law_689 : decode xc_LW_law 689 = .ok (.aload_n 3, 1) := by decide +kernel
theorem xd_LW_law_690 : decode xc_LW_law 690 = .ok (.invokestatic 90, 3) := by decide +kernel
theorem xd_LW_law_693 : decode xc_LW_law 693 = .ok (.istore 5, 2) := by decide +kernel
theorem xd_LW_law_695 : decode xc_LW_law 695 = .ok (.aload_n 2, 1) := by decide +kernel
theorem xd_LW_law_696 : decode xc_LW_law 696 = .ok (.aload_n 0, 1) := by decide +kernel
theorem xd_LW_law_697 : decode xc_LW_law 697 = .ok (.iload 4, 2) := by decide +kernel
theorem xd_LW_law_699 : decode xc_LW_law 699 = .ok (.iconst 1, 1) := by decide +kernel
theorem xd_LW_law_700 : decode xc_LW_law 700 = .ok (.iadd, 1) := by decide +kernel
theorem xd_LW_law_701 : decode xc_LW_law 701 = .ok (.iaload, 1) := by decide +kernel
theorem xd_LW_law_702 : decode xc_LW_law 702 = .ok (.invokevirtual 92, 3) := by decide +kernel
theorem xd_LW_law_705 : decode xc_LW_law 705 = .ok (.istore 6, 2) := by decide +kernel
theorem xd_LW_law_707 : decode xc_LW_law 707 = .ok (.aload_n 2, 1) := by decide +kernel
theorem xd_LW_law_708 : decode xc_LW_law 708 = .ok (.invokevirtual 62, 3) := by decide +kernel
theorem xd_LW_law_711 : decode xc_LW_law 711 = .ok (.iload 5, 2) := by decide +kernel
theorem xd_LW_law_713 : decode xc_LW_law 713 = .ok (.if_icmp .eq 5, 3) := by decide +kernel
theorem xd_LW_law_716 : decode xc_LW_law 716 = .ok (.iconst 0, 1) := by decide +kernel
theorem xd_LW_law_717 : decode xc_LW_law 717 = .ok (.ireturn, 1) := by decide +kernel
theorem xd_LW_law_718 : decode xc_LW_law 718 = .ok (.iload 5, 2) := by decide +kernel
theorem xd_LW_law_720 : decode xc_LW_law 720 = .ok (.ifCond .ne 15, 3) := by decide +kernel
theorem xd_LW_law_723 : decode xc_LW_law 723 = .ok (.aload_n 3, 1) := by decide +kernel
theorem xd_LW_law_724 : decode xc_LW_law 724 = .ok (.iconst 0, 1) := by decide +kernel
theorem xd_LW_law_725 : decode xc_LW_law 725 = .ok (.laload, 1) := by decide +kernel
theorem xd_LW_law_726 : decode xc_LW_law 726 = .ok (.iload 6, 2) := by decide +kernel
theorem xd_LW_law_728 : decode xc_LW_law 728 = .ok (.i2l, 1) := by decide +kernel
theorem xd_LW_law_729 : decode xc_LW_law 729 = .ok (.lcmp, 1) := by decide +kernel
theorem xd_LW_law_730 : decode xc_LW_law 730 = .ok (.ifCond .eq 5, 3) := by decide +kernel
theorem xd_LW_law_733 : decode xc_LW_law 733 = .ok (.iconst 0, 1) := by decide +kernel
theorem xd_LW_law_734 : decode xc_LW_law 734 = .ok (.ireturn, 1) := by decide +kernel
theorem xd_LW_law_735 : decode xc_LW_law 735 = .ok (.goto 220, 3) := by decide +kernel
theorem xd_LW_law_738 : decode xc_LW_law 738 = .ok (.aload_n 1, 1) := by decide +kernel
theorem xd_LW_law_739 : decode xc_LW_law 739 = .ok (.aload_n 0, 1) := by decide +kernel
theorem xd_LW_law_740 : decode xc_LW_law 740 = .ok (.iload 4, 2) := by decide +kernel
theorem xd_LW_law_742 : decode xc_LW_law 742 = .ok (.iconst 1, 1) := by decide +kernel
theorem xd_LW_law_743 : decode xc_LW_law 743 = .ok (.iadd, 1) := by decide +kernel
theorem xd_LW_law_744 : decode xc_LW_law 744 = .ok (.iaload, 1) := by decide +kernel
theorem xd_LW_law_745 : decode xc_LW_law 745 = .ok (.aload_n 0, 1) := by decide +kernel
theorem xd_LW_law_746 : decode xc_LW_law 746 = .ok (.iload 4, 2) := by decide +kernel
theorem xd_LW_law_748 : decode xc_LW_law 748 = .ok (.iconst 2, 1) := by decide +kernel
theorem xd_LW_law_749 : decode xc_LW_law 749 = .ok (.iadd, 1) := by decide +kernel
theorem xd_LW_law_750 : decode xc_LW_law 750 = .ok (.iaload, 1) := by decide +kernel
theorem xd_LW_law_751 : decode xc_LW_law 751 = .ok (.aload_n 0, 1) := by decide +kernel
theorem xd_LW_law_752 : decode xc_LW_law 752 = .ok (.iload 4, 2) := by decide +kernel
theorem xd_LW_law_754 : decode xc_LW_law 754 = .ok (.iconst 3, 1) := by decide +kernel
theorem xd_LW_law_755 : decode xc_LW_law 755 = .ok (.iadd, 1) := by decide +kernel
theorem xd_LW_law_756 : decode xc_LW_law 756 = .ok (.iaload, 1) := by decide +kernel
theorem xd_LW_law_757 : decode xc_LW_law 757 = .ok (.aload_n 3, 1) := by decide +kernel
theorem xd_LW_law_758 : decode xc_LW_law 758 = .ok (.invokestatic 93, 3) := by decide +kernel
theorem xd_LW_law_761 : decode xc_LW_law 761 = .ok (.istore 5, 2) := by decide +kernel
theorem xd_LW_law_763 : decode xc_LW_law 763 = .ok (.aload_n 2, 1) := by decide +kernel
theorem xd_LW_law_764 : decode xc_LW_law 764 = .ok (.aload_n 0, 1) := by decide +kernel
theorem xd_LW_law_765 : decode xc_LW_law 765 = .ok (.iload 4, 2) := by decide +kernel
theorem xd_LW_law_767 : decode xc_LW_law 767 = .ok (.iconst 1, 1) := by decide +kernel
theorem xd_LW_law_768 : decode xc_LW_law 768 = .ok (.iadd, 1) := by decide +kernel
theorem xd_LW_law_769 : decode xc_LW_law 769 = .ok (.iaload, 1) := by decide +kernel
theorem xd_LW_law_770 : decode xc_LW_law 770 = .ok (.aload_n 0, 1) := by decide +kernel
theorem xd_LW_law_771 : decode xc_LW_law 771 = .ok (.iload 4, 2) := by decide +kernel
theorem xd_LW_law_773 : decode xc_LW_law 773 = .ok (.iconst 2, 1) := by decide +kernel
theorem xd_LW_law_774 : decode xc_LW_law 774 = .ok (.iadd, 1) := by decide +kernel
theorem xd_LW_law_775 : decode xc_LW_law 775 = .ok (.iaload, 1) := by decide +kernel
theorem xd_LW_law_776 : decode xc_LW_law 776 = .ok (.aload_n 0, 1) := by decide +kernel
theorem xd_LW_law_777 : decode xc_LW_law 777 = .ok (.iload 4, 2) := by decide +kernel
theorem xd_LW_law_779 : decode xc_LW_law 779 = .ok (.iconst 3, 1) := by decide +kernel
theorem xd_LW_law_780 : decode xc_LW_law 780 = .ok (.iadd, 1) := by decide +kernel
theorem xd_LW_law_781 : decode xc_LW_law 781 = .ok (.iaload, 1) := by decide +kernel
theorem xd_LW_law_782 : decode xc_LW_law 782 = .ok (.invokevirtual 95, 3) := by decide +kernel
theorem xd_LW_law_785 : decode xc_LW_law 785 = .ok (.istore 6, 2) := by decide +kernel
theorem xd_LW_law_787 : decode xc_LW_law 787 = .ok (.aload_n 2, 1) := by decide +kernel
theorem xd_LW_law_788 : decode xc_LW_law 788 = .ok (.invokevirtual 62, 3) := by decide +kernel
theorem xd_LW_law_791 : decode xc_LW_law 791 = .ok (.iload 5, 2) := by decide +kernel
theorem xd_LW_law_793 : decode xc_LW_law 793 = .ok (.if_icmp .eq 5, 3) := by decide +kernel
theorem xd_LW_law_796 : decode xc_LW_law 796 = .ok (.iconst 0, 1) := by decide +kernel
theorem xd_LW_law_797 : decode xc_LW_law 797 = .ok (.ireturn, 1) := by decide +kernel
theorem xd_LW_law_798 : decode xc_LW_law 798 = .ok (.iload 5, 2) := by decide +kernel
theorem xd_LW_law_800 : decode xc_LW_law 800 = .ok (.ifCond .ne 15, 3) := by decide +kernel
theorem xd_LW_law_803 : decode xc_LW_law 803 = .ok (.aload_n 3, 1) := by decide +kernel
theorem xd_LW_law_804 : decode xc_LW_law 804 = .ok (.iconst 0, 1) := by decide +kernel
theorem xd_LW_law_805 : decode xc_LW_law 805 = .ok (.laload, 1) := by decide +kernel
theorem xd_LW_law_806 : decode xc_LW_law 806 = .ok (.iload 6, 2) := by decide +kernel
theorem xd_LW_law_808 : decode xc_LW_law 808 = .ok (.i2l, 1) := by decide +kernel
theorem xd_LW_law_809 : decode xc_LW_law 809 = .ok (.lcmp, 1) := by decide +kernel
theorem xd_LW_law_810 : decode xc_LW_law 810 = .ok (.ifCond .eq 5, 3) := by decide +kernel
theorem xd_LW_law_813 : decode xc_LW_law 813 = .ok (.iconst 0, 1) := by decide +kernel
theorem xd_LW_law_814 : decode xc_LW_law 814 = .ok (.ireturn, 1) := by decide +kernel
theorem xd_LW_law_815 : decode xc_LW_law 815 = .ok (.goto 140, 3) := by decide +kernel
theorem xd_LW_law_818 : decode xc_LW_law 818 = .ok (.aload_n 1, 1) := by decide +kernel
theorem xd_LW_law_819 : decode xc_LW_law 819 = .ok (.aload_n 0, 1) := by decide +kernel
theorem xd_LW_law_820 : decode xc_LW_law 820 = .ok (.iload 4, 2) := by decide +kernel
theorem xd_LW_law_822 : decode xc_LW_law 822 = .ok (.iconst 1, 1) := by decide +kernel
theorem xd_LW_law_823 : decode xc_LW_law 823 = .ok (.iadd, 1) := by decide +kernel
theorem xd_LW_law_824 : decode xc_LW_law 824 = .ok (.iaload, 1) := by decide +kernel
theorem xd_LW_law_825 : decode xc_LW_law 825 = .ok (.aload_n 3, 1) := by decide +kernel
theorem xd_LW_law_826 : decode xc_LW_law 826 = .ok (.invokestatic 96, 3) := by decide +kernel
theorem xd_LW_law_829 : decode xc_LW_law 829 = .ok (.istore 5, 2) := by decide +kernel
theorem xd_LW_law_831 : decode xc_LW_law 831 = .ok (.aload_n 2, 1) := by decide +kernel
theorem xd_LW_law_832 : decode xc_LW_law 832 = .ok (.aload_n 0, 1) := by decide +kernel
theorem xd_LW_law_833 : decode xc_LW_law 833 = .ok (.iload 4, 2) := by decide +kernel
theorem xd_LW_law_835 : decode xc_LW_law 835 = .ok (.iconst 1, 1) := by decide +kernel
theorem xd_LW_law_836 : decode xc_LW_law 836 = .ok (.iadd, 1) := by decide +kernel
theorem xd_LW_law_837 : decode xc_LW_law 837 = .ok (.iaload, 1) := by decide +kernel
theorem xd_LW_law_838 : decode xc_LW_law 838 = .ok (.invokevirtual 98, 3) := by decide +kernel
theorem xd_LW_law_841 : decode xc_LW_law 841 = .ok (.istore 6, 2) := by decide +kernel
theorem xd_LW_law_843 : decode xc_LW_law 843 = .ok (.aload_n 2, 1) := by decide +kernel
theorem xd_LW_law_844 : decode xc_LW_law 844 = .ok (.invokevirtual 62, 3) := by decide +kernel
theorem xd_LW_law_847 : decode xc_LW_law 847 = .ok (.iload 5, 2) := by decide +kernel
theorem xd_LW_law_849 : decode xc_LW_law 849 = .ok (.if_icmp .eq 5, 3) := by decide +kernel
theorem xd_LW_law_852 : decode xc_LW_law 852 = .ok (.iconst 0, 1) := by decide +kernel
theorem xd_LW_law_853 : decode xc_LW_law 853 = .ok (.ireturn, 1) := by decide +kernel
theorem xd_LW_law_854 : decode xc_LW_law 854 = .ok (.iload 5, 2) := by decide +kernel
theorem xd_LW_law_856 : decode xc_LW_law 856 = .ok (.ifCond .ne 15, 3) := by decide +kernel
theorem xd_LW_law_859 : decode xc_LW_law 859 = .ok (.aload_n 3, 1) := by decide +kernel
theorem xd_LW_law_860 : decode xc_LW_law 860 = .ok (.iconst 0, 1) := by decide +kernel
theorem xd_LW_law_861 : decode xc_LW_law 861 = .ok (.laload, 1) := by decide +kernel
theorem xd_LW_law_862 : decode xc_LW_law 862 = .ok (.iload 6, 2) := by decide +kernel
theorem xd_LW_law_864 : decode xc_LW_law 864 = .ok (.i2l, 1) := by decide +kernel
theorem xd_LW_law_865 : decode xc_LW_law 865 = .ok (.lcmp, 1) := by decide +kernel
theorem xd_LW_law_866 : decode xc_LW_law 866 = .ok (.ifCond .eq 5, 3) := by decide +kernel
theorem xd_LW_law_869 : decode xc_LW_law 869 = .ok (.iconst 0, 1) := by decide +kernel
theorem xd_LW_law_870 : decode xc_LW_law 870 = .ok (.ireturn, 1) := by decide +kernel
theorem xd_LW_law_871 : decode xc_LW_law 871 = .ok (.goto 84, 3) := by decide +kernel
theorem xd_LW_law_874 : decode xc_LW_law 874 = .ok (.aload_n 1, 1) := by decide +kernel
theorem xd_LW_law_875 : decode xc_LW_law 875 = .ok (.aload_n 0, 1) := by decide +kernel
theorem xd_LW_law_876 : decode xc_LW_law 876 = .ok (.iload 4, 2) := by decide +kernel
theorem xd_LW_law_878 : decode xc_LW_law 878 = .ok (.iconst 1, 1) := by decide +kernel
theorem xd_LW_law_879 : decode xc_LW_law 879 = .ok (.iadd, 1) := by decide +kernel
theorem xd_LW_law_880 : decode xc_LW_law 880 = .ok (.iaload, 1) := by decide +kernel
theorem xd_LW_law_881 : decode xc_LW_law 881 = .ok (.aload_n 3, 1) := by decide +kernel
theorem xd_LW_law_882 : decode xc_LW_law 882 = .ok (.invokestatic 99, 3) := by decide +kernel
theorem xd_LW_law_885 : decode xc_LW_law 885 = .ok (.istore 5, 2) := by decide +kernel
theorem xd_LW_law_887 : decode xc_LW_law 887 = .ok (.aload_n 2, 1) := by decide +kernel
theorem xd_LW_law_888 : decode xc_LW_law 888 = .ok (.aload_n 0, 1) := by decide +kernel
theorem xd_LW_law_889 : decode xc_LW_law 889 = .ok (.iload 4, 2) := by decide +kernel
theorem xd_LW_law_891 : decode xc_LW_law 891 = .ok (.iconst 1, 1) := by decide +kernel
theorem xd_LW_law_892 : decode xc_LW_law 892 = .ok (.iadd, 1) := by decide +kernel
theorem xd_LW_law_893 : decode xc_LW_law 893 = .ok (.iaload, 1) := by decide +kernel
theorem xd_LW_law_894 : decode xc_LW_law 894 = .ok (.invokevirtual 101, 3) := by decide +kernel
theorem xd_LW_law_897 : decode xc_LW_law 897 = .ok (.istore 6, 2) := by decide +kernel
theorem xd_LW_law_899 : decode xc_LW_law 899 = .ok (.aload_n 2, 1) := by decide +kernel
theorem xd_LW_law_900 : decode xc_LW_law 900 = .ok (.invokevirtual 62, 3) := by decide +kernel
theorem xd_LW_law_903 : decode xc_LW_law 903 = .ok (.iload 5, 2) := by decide +kernel
theorem xd_LW_law_905 : decode xc_LW_law 905 = .ok (.if_icmp .eq 5, 3) := by decide +kernel
theorem xd_LW_law_908 : decode xc_LW_law 908 = .ok (.iconst 0, 1) := by decide +kernel
theorem xd_LW_law_909 : decode xc_LW_law 909 = .ok (.ireturn, 1) := by decide +kernel
theorem xd_LW_law_910 : decode xc_LW_law 910 = .ok (.iload 5, 2) := by decide +kernel
theorem xd_LW_law_912 : decode xc_LW_law 912 = .ok (.ifCond .ne 15, 3) := by decide +kernel
theorem xd_LW_law_915 : decode xc_LW_law 915 = .ok (.aload_n 3, 1) := by decide +kernel
theorem xd_LW_law_916 : decode xc_LW_law 916 = .ok (.iconst 0, 1) := by decide +kernel
theorem xd_LW_law_917 : decode xc_LW_law 917 = .ok (.laload, 1) := by decide +kernel
theorem xd_LW_law_918 : decode xc_LW_law 918 = .ok (.iload 6, 2) := by decide +kernel
theorem xd_LW_law_920 : decode xc_LW_law 920 = .ok (.i2l, 1) := by decide +kernel
theorem xd_LW_law_921 : decode xc_LW_law 921 = .ok (.lcmp, 1) := by decide +kernel
theorem xd_LW_law_922 : decode xc_LW_law 922 = .ok (.ifCond .eq 5, 3) := by decide +kernel
theorem xd_LW_law_925 : decode xc_LW_law 925 = .ok (.iconst 0, 1) := by decide +kernel
theorem xd_LW_law_926 : decode xc_LW_law 926 = .ok (.ireturn, 1) := by decide +kernel
theorem xd_LW_law_927 : decode xc_LW_law 927 = .ok (.goto 28, 3) := by decide +kernel
theorem xd_LW_law_930 : decode xc_LW_law 930 = .ok (.aload_n 1, 1) := by decide +kernel
theorem xd_LW_law_931 : decode xc_LW_law 931 = .ok (.aload_n 0, 1) := by decide +kernel
theorem xd_LW_law_932 : decode xc_LW_law 932 = .ok (.iload 4, 2) := by decide +kernel
theorem xd_LW_law_934 : decode xc_LW_law 934 = .ok (.iconst 1, 1) := by decide +kernel
theorem xd_LW_law_935 : decode xc_LW_law 935 = .ok (.iadd, 1) := by decide +kernel
theorem xd_LW_law_936 : decode xc_LW_law 936 = .ok (.iaload, 1) := by decide +kernel
theorem xd_LW_law_937 : decode xc_LW_law 937 = .ok (.invokevirtual 102, 3) := by decide +kernel
theorem xd_LW_law_940 : decode xc_LW_law 940 = .ok (.aload_n 2, 1) := by decide +kernel
theorem xd_LW_law_941 : decode xc_LW_law 941 = .ok (.aload_n 0, 1) := by decide +kernel
theorem xd_LW_law_942 : decode xc_LW_law 942 = .ok (.iload 4, 2) := by decide +kernel
theorem xd_LW_law_944 : decode xc_LW_law 944 = .ok (.iconst 1, 1) := by decide +kernel
theorem xd_LW_law_945 : decode xc_LW_law 945 = .ok (.iadd, 1) := by decide +kernel
theorem xd_LW_law_946 : decode xc_LW_law 946 = .ok (.iaload, 1) := by decide +kernel
theorem xd_LW_law_947 : decode xc_LW_law 947 = .ok (.invokevirtual 105, 3) := by decide +kernel
theorem xd_LW_law_950 : decode xc_LW_law 950 = .ok (.if_icmp .eq 5, 3) := by decide +kernel
theorem xd_LW_law_953 : decode xc_LW_law 953 = .ok (.iconst 0, 1) := by decide +kernel
theorem xd_LW_law_954 : decode xc_LW_law 954 = .ok (.ireturn, 1) := by decide +kernel
theorem xd_LW_law_955 : decode xc_LW_law 955 = .ok (.iinc 4 4, 3) := by decide +kernel
theorem xd_LW_law_958 : decode xc_LW_law 958 = .ok (.goto (-935), 3) := by decide +kernel
theorem xd_LW_law_961 : decode xc_LW_law 961 = .ok (.iconst 1, 1) := by decide +kernel
theorem xd_LW_law_962 : decode xc_LW_law 962 = .ok (.ireturn, 1) := by decide +kernel
