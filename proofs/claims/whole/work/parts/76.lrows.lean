def mL_law : z_M := (⟨"TwoSealsLaw", "law", "([I)Z"⟩, code, 7, ret)
theorem dL_law_0 : decode mL_law.2.1 0 = .ok (.new 8, 3) := by decide +kernel
theorem dL_law_3 : decode mL_law.2.1 3 = .ok (.dup, 1) := by decide +kernel
theorem dL_law_4 : decode mL_law.2.1 4 = .ok (.invokespecial 48, 3) := by decide +kernel
theorem dL_law_7 : decode mL_law.2.1 7 = .ok (.astore_n 1, 1) := by decide +kernel
theorem dL_law_8 : decode mL_law.2.1 8 = .ok (.new 49, 3) := by decide +kernel
theorem dL_law_11 : decode mL_law.2.1 11 = .ok (.dup, 1) := by decide +kernel
theorem dL_law_12 : decode mL_law.2.1 12 = .ok (.invokespecial 51, 3) := by decide +kernel
theorem dL_law_15 : decode mL_law.2.1 15 = .ok (.astore_n 2, 1) := by decide +kernel
theorem dL_law_16 : decode mL_law.2.1 16 = .ok (.iconst 1, 1) := by decide +kernel
theorem dL_law_17 : decode mL_law.2.1 17 = .ok (.newarray .long, 2) := by decide +kernel
theorem dL_law_19 : decode mL_law.2.1 19 = .ok (.astore_n 3, 1) := by decide +kernel
theorem dL_law_20 : decode mL_law.2.1 20 = .ok (.iconst 0, 1) := by decide +kernel
theorem dL_law_21 : decode mL_law.2.1 21 = .ok (.istore 4, 2) := by decide +kernel
theorem dL_law_23 : decode mL_law.2.1 23 = .ok (.iload 4, 2) := by decide +kernel
theorem dL_law_25 : decode mL_law.2.1 25 = .ok (.aload_n 0, 1) := by decide +kernel
theorem dL_law_26 : decode mL_law.2.1 26 = .ok (.arraylength, 1) := by decide +kernel
theorem dL_law_27 : decode mL_law.2.1 27 = .ok (.iconst 5, 1) := by decide +kernel
theorem dL_law_28 : decode mL_law.2.1 28 = .ok (.isub, 1) := by decide +kernel
theorem dL_law_29 : decode mL_law.2.1 29 = .ok (.if_icmp .gt 594, 3) := by decide +kernel
theorem dL_law_32 : decode mL_law.2.1 32 = .ok (.aload_n 0, 1) := by decide +kernel
theorem dL_law_33 : decode mL_law.2.1 33 = .ok (.iload 4, 2) := by decide +kernel
theorem dL_law_35 : decode mL_law.2.1 35 = .ok (.iaload, 1) := by decide +kernel
theorem dL_law_36 : decode mL_law.2.1 36 = .ok (.bipush 15, 2) := by decide +kernel
theorem dL_law_38 : decode mL_law.2.1 38 = .ok (.iand, 1) := by decide +kernel
theorem dL_law_39 : decode mL_law.2.1 39 = .ok (.tableswitch 578 0 9 #[53, 165, 221, 281, 337, 361, 397, 453, 509, 522], 53) := by decide +kernel
theorem dL_law_92 : decode mL_law.2.1 92 = .ok (.aload_n 1, 1) := by decide +kernel
theorem dL_law_93 : decode mL_law.2.1 93 = .ok (.aload_n 0, 1) := by decide +kernel
theorem dL_law_94 : decode mL_law.2.1 94 = .ok (.iload 4, 2) := by decide +kernel
theorem dL_law_96 : decode mL_law.2.1 96 = .ok (.iconst 1, 1) := by decide +kernel
theorem dL_law_97 : decode mL_law.2.1 97 = .ok (.iadd, 1) := by decide +kernel
theorem dL_law_98 : decode mL_law.2.1 98 = .ok (.iaload, 1) := by decide +kernel
theorem dL_law_99 : decode mL_law.2.1 99 = .ok (.aload_n 0, 1) := by decide +kernel
theorem dL_law_100 : decode mL_law.2.1 100 = .ok (.iload 4, 2) := by decide +kernel
theorem dL_law_102 : decode mL_law.2.1 102 = .ok (.iconst 2, 1) := by decide +kernel
theorem dL_law_103 : decode mL_law.2.1 103 = .ok (.iadd, 1) := by decide +kernel
theorem dL_law_104 : decode mL_law.2.1 104 = .ok (.iaload, 1) := by decide +kernel
theorem dL_law_105 : decode mL_law.2.1 105 = .ok (.i2l, 1) := by decide +kernel
theorem dL_law_106 : decode mL_law.2.1 106 = .ok (.bipush 32, 2) := by decide +kernel
theorem dL_law_108 : decode mL_law.2.1 108 = .ok (.lshl, 1) := by decide +kernel
theorem dL_law_109 : decode mL_law.2.1 109 = .ok (.aload_n 0, 1) := by decide +kernel
theorem dL_law_110 : decode mL_law.2.1 110 = .ok (.iload 4, 2) := by decide +kernel
theorem dL_law_112 : decode mL_law.2.1 112 = .ok (.iconst 3, 1) := by decide +kernel
theorem dL_law_113 : decode mL_law.2.1 113 = .ok (.iadd, 1) := by decide +kernel
theorem dL_law_114 : decode mL_law.2.1 114 = .ok (.iaload, 1) := by decide +kernel
theorem dL_law_115 : decode mL_law.2.1 115 = .ok (.i2l, 1) := by decide +kernel
theorem dL_law_116 : decode mL_law.2.1 116 = .ok (.ldc2_w 52, 3) := by decide +kernel
theorem dL_law_119 : decode mL_law.2.1 119 = .ok (.land, 1) := by decide +kernel
theorem dL_law_120 : decode mL_law.2.1 120 = .ok (.lor, 1) := by decide +kernel
theorem dL_law_121 : decode mL_law.2.1 121 = .ok (.aload_n 0, 1) := by decide +kernel
theorem dL_law_122 : decode mL_law.2.1 122 = .ok (.iload 4, 2) := by decide +kernel
theorem dL_law_124 : decode mL_law.2.1 124 = .ok (.iconst 4, 1) := by decide +kernel
theorem dL_law_125 : decode mL_law.2.1 125 = .ok (.iadd, 1) := by decide +kernel
theorem dL_law_126 : decode mL_law.2.1 126 = .ok (.iaload, 1) := by decide +kernel
theorem dL_law_127 : decode mL_law.2.1 127 = .ok (.aload_n 3, 1) := by decide +kernel
theorem dL_law_128 : decode mL_law.2.1 128 = .ok (.invokestatic 54, 3) := by decide +kernel
theorem dL_law_131 : decode mL_law.2.1 131 = .ok (.istore 5, 2) := by decide +kernel
theorem dL_law_133 : decode mL_law.2.1 133 = .ok (.aload_n 2, 1) := by decide +kernel
theorem dL_law_134 : decode mL_law.2.1 134 = .ok (.aload_n 0, 1) := by decide +kernel
theorem dL_law_135 : decode mL_law.2.1 135 = .ok (.iload 4, 2) := by decide +kernel
theorem dL_law_137 : decode mL_law.2.1 137 = .ok (.iconst 1, 1) := by decide +kernel
theorem dL_law_138 : decode mL_law.2.1 138 = .ok (.iadd, 1) := by decide +kernel
theorem dL_law_139 : decode mL_law.2.1 139 = .ok (.iaload, 1) := by decide +kernel
theorem dL_law_140 : decode mL_law.2.1 140 = .ok (.aload_n 0, 1) := by decide +kernel
theorem dL_law_141 : decode mL_law.2.1 141 = .ok (.iload 4, 2) := by decide +kernel
theorem dL_law_143 : decode mL_law.2.1 143 = .ok (.iconst 2, 1) := by decide +kernel
theorem dL_law_144 : decode mL_law.2.1 144 = .ok (.iadd, 1) := by decide +kernel
theorem dL_law_145 : decode mL_law.2.1 145 = .ok (.iaload, 1) := by decide +kernel
theorem dL_law_146 : decode mL_law.2.1 146 = .ok (.i2l, 1) := by decide +kernel
theorem dL_law_147 : decode mL_law.2.1 147 = .ok (.bipush 32, 2) := by decide +kernel
theorem dL_law_149 : decode mL_law.2.1 149 = .ok (.lshl, 1) := by decide +kernel
theorem dL_law_150 : decode mL_law.2.1 150 = .ok (.aload_n 0, 1) := by decide +kernel
theorem dL_law_151 : decode mL_law.2.1 151 = .ok (.iload 4, 2) := by decide +kernel
theorem dL_law_153 : decode mL_law.2.1 153 = .ok (.iconst 3, 1) := by decide +kernel
theorem dL_law_154 : decode mL_law.2.1 154 = .ok (.iadd, 1) := by decide +kernel
theorem dL_law_155 : decode mL_law.2.1 155 = .ok (.iaload, 1) := by decide +kernel
theorem dL_law_156 : decode mL_law.2.1 156 = .ok (.i2l, 1) := by decide +kernel
theorem dL_law_157 : decode mL_law.2.1 157 = .ok (.ldc2_w 52, 3) := by decide +kernel
theorem dL_law_160 : decode mL_law.2.1 160 = .ok (.land, 1) := by decide +kernel
theorem dL_law_161 : decode mL_law.2.1 161 = .ok (.lor, 1) := by decide +kernel
theorem dL_law_162 : decode mL_law.2.1 162 = .ok (.aload_n 0, 1) := by decide +kernel
theorem dL_law_163 : decode mL_law.2.1 163 = .ok (.iload 4, 2) := by decide +kernel
theorem dL_law_165 : decode mL_law.2.1 165 = .ok (.iconst 4, 1) := by decide +kernel
theorem dL_law_166 : decode mL_law.2.1 166 = .ok (.iadd, 1) := by decide +kernel
theorem dL_law_167 : decode mL_law.2.1 167 = .ok (.iaload, 1) := by decide +kernel
theorem dL_law_168 : decode mL_law.2.1 168 = .ok (.invokevirtual 59, 3) := by decide +kernel
theorem dL_law_171 : decode mL_law.2.1 171 = .ok (.istore 6, 2) := by decide +kernel
theorem dL_law_173 : decode mL_law.2.1 173 = .ok (.aload_n 2, 1) := by decide +kernel
theorem dL_law_174 : decode mL_law.2.1 174 = .ok (.invokevirtual 60, 3) := by decide +kernel
theorem dL_law_177 : decode mL_law.2.1 177 = .ok (.iload 5, 2) := by decide +kernel
theorem dL_law_179 : decode mL_law.2.1 179 = .ok (.if_icmp .eq 5, 3) := by decide +kernel
theorem dL_law_182 : decode mL_law.2.1 182 = .ok (.iconst 0, 1) := by decide +kernel
theorem dL_law_183 : decode mL_law.2.1 183 = .ok (.ireturn, 1) := by decide +kernel
theorem dL_law_184 : decode mL_law.2.1 184 = .ok (.iload 5, 2) := by decide +kernel
theorem dL_law_186 : decode mL_law.2.1 186 = .ok (.ifCond .ne 15, 3) := by decide +kernel
theorem dL_law_189 : decode mL_law.2.1 189 = .ok (.aload_n 3, 1) := by decide +kernel
theorem dL_law_190 : decode mL_law.2.1 190 = .ok (.iconst 0, 1) := by decide +kernel
theorem dL_law_191 : decode mL_law.2.1 191 = .ok (.laload, 1) := by decide +kernel
theorem dL_law_192 : decode mL_law.2.1 192 = .ok (.iload 6, 2) := by decide +kernel
theorem dL_law_194 : decode mL_law.2.1 194 = .ok (.i2l, 1) := by decide +kernel
theorem dL_law_195 : decode mL_law.2.1 195 = .ok (.lcmp, 1) := by decide +kernel
theorem dL_law_196 : decode mL_law.2.1 196 = .ok (.ifCond .eq 5, 3) := by decide +kernel
theorem dL_law_199 : decode mL_law.2.1 199 = .ok (.iconst 0, 1) := by decide +kernel
theorem dL_law_200 : decode mL_law.2.1 200 = .ok (.ireturn, 1) := by decide +kernel
theorem dL_law_201 : decode mL_law.2.1 201 = .ok (.goto 416, 3) := by decide +kernel
theorem dL_law_204 : decode mL_law.2.1 204 = .ok (.aload_n 1, 1) := by decide +kernel
theorem dL_law_205 : decode mL_law.2.1 205 = .ok (.aload_n 0, 1) := by decide +kernel
theorem dL_law_206 : decode mL_law.2.1 206 = .ok (.iload 4, 2) := by decide +kernel
theorem dL_law_208 : decode mL_law.2.1 208 = .ok (.iconst 1, 1) := by decide +kernel
theorem dL_law_209 : decode mL_law.2.1 209 = .ok (.iadd, 1) := by decide +kernel
theorem dL_law_210 : decode mL_law.2.1 210 = .ok (.iaload, 1) := by decide +kernel
theorem dL_law_211 : decode mL_law.2.1 211 = .ok (.aload_n 3, 1) := by decide +kernel
theorem dL_law_212 : decode mL_law.2.1 212 = .ok (.invokestatic 64, 3) := by decide +kernel
theorem dL_law_215 : decode mL_law.2.1 215 = .ok (.istore 5, 2) := by decide +kernel
theorem dL_law_217 : decode mL_law.2.1 217 = .ok (.aload_n 2, 1) := by decide +kernel
theorem dL_law_218 : decode mL_law.2.1 218 = .ok (.aload_n 0, 1) := by decide +kernel
theorem dL_law_219 : decode mL_law.2.1 219 = .ok (.iload 4, 2) := by decide +kernel
theorem dL_law_221 : decode mL_law.2.1 221 = .ok (.iconst 1, 1) := by decide +kernel
theorem dL_law_222 : decode mL_law.2.1 222 = .ok (.iadd, 1) := by decide +kernel
theorem dL_law_223 : decode mL_law.2.1 223 = .ok (.iaload, 1) := by decide +kernel
theorem dL_law_224 : decode mL_law.2.1 224 = .ok (.invokevirtual 67, 3) := by decide +kernel
theorem dL_law_227 : decode mL_law.2.1 227 = .ok (.istore 6, 2) := by decide +kernel
theorem dL_law_229 : decode mL_law.2.1 229 = .ok (.aload_n 2, 1) := by decide +kernel
theorem dL_law_230 : decode mL_law.2.1 230 = .ok (.invokevirtual 60, 3) := by decide +kernel
theorem dL_law_233 : decode mL_law.2.1 233 = .ok (.iload 5, 2) := by decide +kernel
theorem dL_law_235 : decode mL_law.2.1 235 = .ok (.if_icmp .eq 5, 3) := by decide +kernel
theorem dL_law_238 : decode mL_law.2.1 238 = .ok (.iconst 0, 1) := by decide +kernel
theorem dL_law_239 : decode mL_law.2.1 239 = .ok (.ireturn, 1) := by decide +kernel
theorem dL_law_240 : decode mL_law.2.1 240 = .ok (.iload 5, 2) := by decide +kernel
theorem dL_law_242 : decode mL_law.2.1 242 = .ok (.ifCond .ne 15, 3) := by decide +kernel
theorem dL_law_245 : decode mL_law.2.1 245 = .ok (.aload_n 3, 1) := by decide +kernel
theorem dL_law_246 : decode mL_law.2.1 246 = .ok (.iconst 0, 1) := by decide +kernel
theorem dL_law_247 : decode mL_law.2.1 247 = .ok (.laload, 1) := by decide +kernel
theorem dL_law_248 : decode mL_law.2.1 248 = .ok (.iload 6, 2) := by decide +kernel
theorem dL_law_250 : decode mL_law.2.1 250 = .ok (.i2l, 1) := by decide +kernel
theorem dL_law_251 : decode mL_law.2.1 251 = .ok (.lcmp, 1) := by decide +kernel
theorem dL_law_252 : decode mL_law.2.1 252 = .ok (.ifCond .eq 5, 3) := by decide +kernel
theorem dL_law_255 : decode mL_law.2.1 255 = .ok (.iconst 0, 1) := by decide +kernel
theorem dL_law_256 : decode mL_law.2.1 256 = .ok (.ireturn, 1) := by decide +kernel
theorem dL_law_257 : decode mL_law.2.1 257 = .ok (.goto 360, 3) := by decide +kernel
theorem dL_law_260 : decode mL_law.2.1 260 = .ok (.aload_n 1, 1) := by decide +kernel
theorem dL_law_261 : decode mL_law.2.1 261 = .ok (.aload_n 0, 1) := by decide +kernel
theorem dL_law_262 : decode mL_law.2.1 262 = .ok (.iload 4, 2) := by decide +kernel
theorem dL_law_264 : decode mL_law.2.1 264 = .ok (.iconst 1, 1) := by decide +kernel
theorem dL_law_265 : decode mL_law.2.1 265 = .ok (.iadd, 1) := by decide +kernel
theorem dL_law_266 : decode mL_law.2.1 266 = .ok (.iaload, 1) := by decide +kernel
theorem dL_law_267 : decode mL_law.2.1 267 = .ok (.aload_n 0, 1) := by decide +kernel
theorem dL_law_268 : decode mL_law.2.1 268 = .ok (.iload 4, 2) := by decide +kernel
theorem dL_law_270 : decode mL_law.2.1 270 = .ok (.iconst 2, 1) := by decide +kernel
theorem dL_law_271 : decode mL_law.2.1 271 = .ok (.iadd, 1) := by decide +kernel
theorem dL_law_272 : decode mL_law.2.1 272 = .ok (.iaload, 1) := by decide +kernel
theorem dL_law_273 : decode mL_law.2.1 273 = .ok (.aload_n 0, 1) := by decide +kernel
theorem dL_law_274 : decode mL_law.2.1 274 = .ok (.iload 4, 2) := by decide +kernel
theorem dL_law_276 : decode mL_law.2.1 276 = .ok (.iconst 3, 1) := by decide +kernel
theorem dL_law_277 : decode mL_law.2.1 277 = .ok (.iadd, 1) := by decide +kernel
theorem dL_law_278 : decode mL_law.2.1 278 = .ok (.iaload, 1) := by decide +kernel
theorem dL_law_279 : decode mL_law.2.1 279 = .ok (.invokestatic 68, 3) := by decide +kernel
theorem dL_law_282 : decode mL_law.2.1 282 = .ok (.istore 5, 2) := by decide +kernel
theorem dL_law_284 : decode mL_law.2.1 284 = .ok (.aload_n 2, 1) := by decide +kernel
theorem dL_law_285 : decode mL_law.2.1 285 = .ok (.aload_n 0, 1) := by decide +kernel
theorem dL_law_286 : decode mL_law.2.1 286 = .ok (.iload 4, 2) := by decide +kernel
theorem dL_law_288 : decode mL_law.2.1 288 = .ok (.iconst 1, 1) := by decide +kernel
theorem dL_law_289 : decode mL_law.2.1 289 = .ok (.iadd, 1) := by decide +kernel
theorem dL_law_290 : decode mL_law.2.1 290 = .ok (.iaload, 1) := by decide +kernel
theorem dL_law_291 : decode mL_law.2.1 291 = .ok (.aload_n 0, 1) := by decide +kernel
theorem dL_law_292 : decode mL_law.2.1 292 = .ok (.iload 4, 2) := by decide +kernel
theorem dL_law_294 : decode mL_law.2.1 294 = .ok (.iconst 2, 1) := by decide +kernel
theorem dL_law_295 : decode mL_law.2.1 295 = .ok (.iadd, 1) := by decide +kernel
theorem dL_law_296 : decode mL_law.2.1 296 = .ok (.iaload, 1) := by decide +kernel
theorem dL_law_297 : decode mL_law.2.1 297 = .ok (.aload_n 0, 1) := by decide +kernel
theorem dL_law_298 : decode mL_law.2.1 298 = .ok (.iload 4, 2) := by decide +kernel
theorem dL_law_300 : decode mL_law.2.1 300 = .ok (.iconst 3, 1) := by decide +kernel
theorem dL_law_301 : decode mL_law.2.1 301 = .ok (.iadd, 1) := by decide +kernel
theorem dL_law_302 : decode mL_law.2.1 302 = .ok (.iaload, 1) := by decide +kernel
theorem dL_law_303 : decode mL_law.2.1 303 = .ok (.invokevirtual 71, 3) := by decide +kernel
theorem dL_law_306 : decode mL_law.2.1 306 = .ok (.aload_n 2, 1) := by decide +kernel
theorem dL_law_307 : decode mL_law.2.1 307 = .ok (.invokevirtual 60, 3) := by decide +kernel
theorem dL_law_310 : decode mL_law.2.1 310 = .ok (.iload 5, 2) := by decide +kernel
theorem dL_law_312 : decode mL_law.2.1 312 = .ok (.if_icmp .eq 5, 3) := by decide +kernel
theorem dL_law_315 : decode mL_law.2.1 315 = .ok (.iconst 0, 1) := by decide +kernel
theorem dL_law_316 : decode mL_law.2.1 316 = .ok (.ireturn, 1) := by decide +kernel
theorem dL_law_317 : decode mL_law.2.1 317 = .ok (.goto 300, 3) := by decide +kernel
theorem dL_law_320 : decode mL_law.2.1 320 = .ok (.aload_n 1, 1) := by decide +kernel
theorem dL_law_321 : decode mL_law.2.1 321 = .ok (.aload_n 0, 1) := by decide +kernel
theorem dL_law_322 : decode mL_law.2.1 322 = .ok (.iload 4, 2) := by decide +kernel
theorem dL_law_324 : decode mL_law.2.1 324 = .ok (.iconst 1, 1) := by decide +kernel
theorem dL_law_325 : decode mL_law.2.1 325 = .ok (.iadd, 1) := by decide +kernel
theorem dL_law_326 : decode mL_law.2.1 326 = .ok (.iaload, 1) := by decide +kernel
theorem dL_law_327 : decode mL_law.2.1 327 = .ok (.aload_n 3, 1) := by decide +kernel
theorem dL_law_328 : decode mL_law.2.1 328 = .ok (.invokestatic 72, 3) := by decide +kernel
theorem dL_law_331 : decode mL_law.2.1 331 = .ok (.istore 5, 2) := by decide +kernel
theorem dL_law_333 : decode mL_law.2.1 333 = .ok (.aload_n 2, 1) := by decide +kernel
theorem dL_law_334 : decode mL_law.2.1 334 = .ok (.aload_n 0, 1) := by decide +kernel
theorem dL_law_335 : decode mL_law.2.1 335 = .ok (.iload 4, 2) := by decide +kernel
theorem dL_law_337 : decode mL_law.2.1 337 = .ok (.iconst 1, 1) := by decide +kernel
theorem dL_law_338 : decode mL_law.2.1 338 = .ok (.iadd, 1) := by decide +kernel
theorem dL_law_339 : decode mL_law.2.1 339 = .ok (.iaload, 1) := by decide +kernel
theorem dL_law_340 : decode mL_law.2.1 340 = .ok (.invokevirtual 74, 3) := by decide +kernel
theorem dL_law_343 : decode mL_law.2.1 343 = .ok (.istore 6, 2) := by decide +kernel
theorem dL_law_345 : decode mL_law.2.1 345 = .ok (.aload_n 2, 1) := by decide +kernel
theorem dL_law_346 : decode mL_law.2.1 346 = .ok (.invokevirtual 60, 3) := by decide +kernel
theorem dL_law_349 : decode mL_law.2.1 349 = .ok (.iload 5, 2) := by decide +kernel
theorem dL_law_351 : decode mL_law.2.1 351 = .ok (.if_icmp .eq 5, 3) := by decide +kernel
theorem dL_law_354 : decode mL_law.2.1 354 = .ok (.iconst 0, 1) := by decide +kernel
theorem dL_law_355 : decode mL_law.2.1 355 = .ok (.ireturn, 1) := by decide +kernel
theorem dL_law_356 : decode mL_law.2.1 356 = .ok (.iload 5, 2) := by decide +kernel
theorem dL_law_358 : decode mL_law.2.1 358 = .ok (.ifCond .ne 15, 3) := by decide +kernel
theorem dL_law_361 : decode mL_law.2.1 361 = .ok (.aload_n 3, 1) := by decide +kernel
theorem dL_law_362 : decode mL_law.2.1 362 = .ok (.iconst 0, 1) := by decide +kernel
theorem dL_law_363 : decode mL_law.2.1 363 = .ok (.laload, 1) := by decide +kernel
theorem dL_law_364 : decode mL_law.2.1 364 = .ok (.iload 6, 2) := by decide +kernel
theorem dL_law_366 : decode mL_law.2.1 366 = .ok (.i2l, 1) := by decide +kernel
theorem dL_law_367 : decode mL_law.2.1 367 = .ok (.lcmp, 1) := by decide +kernel
theorem dL_law_368 : decode mL_law.2.1 368 = .ok (.ifCond .eq 5, 3) := by decide +kernel
theorem dL_law_371 : decode mL_law.2.1 371 = .ok (.iconst 0, 1) := by decide +kernel
theorem dL_law_372 : decode mL_law.2.1 372 = .ok (.ireturn, 1) := by decide +kernel
theorem dL_law_373 : decode mL_law.2.1 373 = .ok (.goto 244, 3) := by decide +kernel
theorem dL_law_376 : decode mL_law.2.1 376 = .ok (.aload_n 1, 1) := by decide +kernel
theorem dL_law_377 : decode mL_law.2.1 377 = .ok (.invokestatic 75, 3) := by decide +kernel
theorem dL_law_380 : decode mL_law.2.1 380 = .ok (.istore 5, 2) := by decide +kernel
theorem dL_law_382 : decode mL_law.2.1 382 = .ok (.aload_n 2, 1) := by decide +kernel
theorem dL_law_383 : decode mL_law.2.1 383 = .ok (.invokevirtual 78, 3) := by decide +kernel
theorem dL_law_386 : decode mL_law.2.1 386 = .ok (.aload_n 2, 1) := by decide +kernel
theorem dL_law_387 : decode mL_law.2.1 387 = .ok (.invokevirtual 60, 3) := by decide +kernel
theorem dL_law_390 : decode mL_law.2.1 390 = .ok (.iload 5, 2) := by decide +kernel
theorem dL_law_392 : decode mL_law.2.1 392 = .ok (.if_icmp .eq 5, 3) := by decide +kernel
theorem dL_law_395 : decode mL_law.2.1 395 = .ok (.iconst 0, 1) := by decide +kernel
theorem dL_law_396 : decode mL_law.2.1 396 = .ok (.ireturn, 1) := by decide +kernel
theorem dL_law_397 : decode mL_law.2.1 397 = .ok (.goto 220, 3) := by decide +kernel
theorem dL_law_400 : decode mL_law.2.1 400 = .ok (.aload_n 1, 1) := by decide +kernel
theorem dL_law_401 : decode mL_law.2.1 401 = .ok (.aload_n 0, 1) := by decide +kernel
theorem dL_law_402 : decode mL_law.2.1 402 = .ok (.iload 4, 2) := by decide +kernel
theorem dL_law_404 : decode mL_law.2.1 404 = .ok (.iconst 1, 1) := by decide +kernel
theorem dL_law_405 : decode mL_law.2.1 405 = .ok (.iadd, 1) := by decide +kernel
theorem dL_law_406 : decode mL_law.2.1 406 = .ok (.iaload, 1) := by decide +kernel
theorem dL_law_407 : decode mL_law.2.1 407 = .ok (.invokestatic 79, 3) := by decide +kernel
theorem dL_law_410 : decode mL_law.2.1 410 = .ok (.istore 5, 2) := by decide +kernel
theorem dL_law_412 : decode mL_law.2.1 412 = .ok (.aload_n 2, 1) := by decide +kernel
theorem dL_law_413 : decode mL_law.2.1 413 = .ok (.aload_n 0, 1) := by decide +kernel
theorem dL_law_414 : decode mL_law.2.1 414 = .ok (.iload 4, 2) := by decide +kernel
theorem dL_law_416 : decode mL_law.2.1 416 = .ok (.iconst 1, 1) := by decide +kernel
theorem dL_law_417 : decode mL_law.2.1 417 = .ok (.iadd, 1) := by decide +kernel
theorem dL_law_418 : decode mL_law.2.1 418 = .ok (.iaload, 1) := by decide +kernel
theorem dL_law_419 : decode mL_law.2.1 419 = .ok (.invokevirtual 82, 3) := by decide +kernel
theorem dL_law_422 : decode mL_law.2.1 422 = .ok (.aload_n 2, 1) := by decide +kernel
theorem dL_law_423 : decode mL_law.2.1 423 = .ok (.invokevirtual 60, 3) := by decide +kernel
theorem dL_law_426 : decode mL_law.2.1 426 = .ok (.iload 5, 2) := by decide +kernel
theorem dL_law_428 : decode mL_law.2.1 428 = .ok (.if_icmp .eq 5, 3) := by decide +kernel
theorem dL_law_431 : decode mL_law.2.1 431 = .ok (.iconst 0, 1) := by decide +kernel
theorem dL_law_432 : decode mL_law.2.1 432 = .ok (.ireturn, 1) := by decide +kernel
theorem dL_law_433 : decode mL_law.2.1 433 = .ok (.goto 184, 3) := by decide +kernel
theorem dL_law_436 : decode mL_law.2.1 436 = .ok (.aload_n 1, 1) := by decide +kernel
theorem dL_law_437 : decode mL_law.2.1 437 = .ok (.aload_n 0, 1) := by decide +kernel
theorem dL_law_438 : decode mL_law.2.1 438 = .ok (.iload 4, 2) := by decide +kernel
theorem dL_law_440 : decode mL_law.2.1 440 = .ok (.iconst 1, 1) := by decide +kernel
theorem dL_law_441 : decode mL_law.2.1 441 = .ok (.iadd, 1) := by decide +kernel
theorem dL_law_442 : decode mL_law.2.1 442 = .ok (.iaload, 1) := by decide +kernel
theorem dL_law_443 : decode mL_law.2.1 443 = .ok (.aload_n 3, 1) := by decide +kernel
theorem dL_law_444 : decode mL_law.2.1 444 = .ok (.invokestatic 83, 3) := by decide +kernel
theorem dL_law_447 : decode mL_law.2.1 447 = .ok (.istore 5, 2) := by decide +kernel
theorem dL_law_449 : decode mL_law.2.1 449 = .ok (.aload_n 2, 1) := by decide +kernel
theorem dL_law_450 : decode mL_law.2.1 450 = .ok (.aload_n 0, 1) := by decide +kernel
theorem dL_law_451 : decode mL_law.2.1 451 = .ok (.iload 4, 2) := by decide +kernel
theorem dL_law_453 : decode mL_law.2.1 453 = .ok (.iconst 1, 1) := by decide +kernel
theorem dL_law_454 : decode mL_law.2.1 454 = .ok (.iadd, 1) := by decide +kernel
theorem dL_law_455 : decode mL_law.2.1 455 = .ok (.iaload, 1) := by decide +kernel
theorem dL_law_456 : decode mL_law.2.1 456 = .ok (.invokevirtual 85, 3) := by decide +kernel
theorem dL_law_459 : decode mL_law.2.1 459 = .ok (.istore 6, 2) := by decide +kernel
theorem dL_law_461 : decode mL_law.2.1 461 = .ok (.aload_n 2, 1) := by decide +kernel
theorem dL_law_462 : decode mL_law.2.1 462 = .ok (.invokevirtual 60, 3) := by decide +kernel
theorem dL_law_465 : decode mL_law.2.1 465 = .ok (.iload 5, 2) := by decide +kernel
theorem dL_law_467 : decode mL_law.2.1 467 = .ok (.if_icmp .eq 5, 3) := by decide +kernel
theorem dL_law_470 : decode mL_law.2.1 470 = .ok (.iconst 0, 1) := by decide +kernel
theorem dL_law_471 : decode mL_law.2.1 471 = .ok (.ireturn, 1) := by decide +kernel
theorem dL_law_472 : decode mL_law.2.1 472 = .ok (.iload 5, 2) := by decide +kernel
theorem dL_law_474 : decode mL_law.2.1 474 = .ok (.ifCond .ne 15, 3) := by decide +kernel
theorem dL_law_477 : decode mL_law.2.1 477 = .ok (.aload_n 3, 1) := by decide +kernel
theorem dL_law_478 : decode mL_law.2.1 478 = .ok (.iconst 0, 1) := by decide +kernel
theorem dL_law_479 : decode mL_law.2.1 479 = .ok (.laload, 1) := by decide +kernel
theorem dL_law_480 : decode mL_law.2.1 480 = .ok (.iload 6, 2) := by decide +kernel
theorem dL_law_482 : decode mL_law.2.1 482 = .ok (.i2l, 1) := by decide +kernel
theorem dL_law_483 : decode mL_law.2.1 483 = .ok (.lcmp, 1) := by decide +kernel
theorem dL_law_484 : decode mL_law.2.1 484 = .ok (.ifCond .eq 5, 3) := by decide +kernel
theorem dL_law_487 : decode mL_law.2.1 487 = .ok (.iconst 0, 1) := by decide +kernel
theorem dL_law_488 : decode mL_law.2.1 488 = .ok (.ireturn, 1) := by decide +kernel
theorem dL_law_489 : decode mL_law.2.1 489 = .ok (.goto 128, 3) := by decide +kernel
theorem dL_law_492 : decode mL_law.2.1 492 = .ok (.aload_n 1, 1) := by decide +kernel
theorem dL_law_493 : decode mL_law.2.1 493 = .ok (.aload_n 0, 1) := by decide +kernel
theorem dL_law_494 : decode mL_law.2.1 494 = .ok (.iload 4, 2) := by decide +kernel
theorem dL_law_496 : decode mL_law.2.1 496 = .ok (.iconst 1, 1) := by decide +kernel
theorem dL_law_497 : decode mL_law.2.1 497 = .ok (.iadd, 1) := by decide +kernel
theorem dL_law_498 : decode mL_law.2.1 498 = .ok (.iaload, 1) := by decide +kernel
theorem dL_law_499 : decode mL_law.2.1 499 = .ok (.aload_n 3, 1) := by decide +kernel
theorem dL_law_500 : decode mL_law.2.1 500 = .ok (.invokestatic 86, 3) := by decide +kernel
theorem dL_law_503 : decode mL_law.2.1 503 = .ok (.istore 5, 2) := by decide +kernel
theorem dL_law_505 : decode mL_law.2.1 505 = .ok (.aload_n 2, 1) := by decide +kernel
theorem dL_law_506 : decode mL_law.2.1 506 = .ok (.aload_n 0, 1) := by decide +kernel
theorem dL_law_507 : decode mL_law.2.1 507 = .ok (.iload 4, 2) := by decide +kernel
theorem dL_law_509 : decode mL_law.2.1 509 = .ok (.iconst 1, 1) := by decide +kernel
theorem dL_law_510 : decode mL_law.2.1 510 = .ok (.iadd, 1) := by decide +kernel
theorem dL_law_511 : decode mL_law.2.1 511 = .ok (.iaload, 1) := by decide +kernel
theorem dL_law_512 : decode mL_law.2.1 512 = .ok (.invokevirtual 88, 3) := by decide +kernel
theorem dL_law_515 : decode mL_law.2.1 515 = .ok (.istore 6, 2) := by decide +kernel
theorem dL_law_517 : decode mL_law.2.1 517 = .ok (.aload_n 2, 1) := by decide +kernel
theorem dL_law_518 : decode mL_law.2.1 518 = .ok (.invokevirtual 60, 3) := by decide +kernel
theorem dL_law_521 : decode mL_law.2.1 521 = .ok (.iload 5, 2) := by decide +kernel
theorem dL_law_523 : decode mL_law.2.1 523 = .ok (.if_icmp .eq 5, 3) := by decide +kernel
theorem dL_law_526 : decode mL_law.2.1 526 = .ok (.iconst 0, 1) := by decide +kernel
theorem dL_law_527 : decode mL_law.2.1 527 = .ok (.ireturn, 1) := by decide +kernel
theorem dL_law_528 : decode mL_law.2.1 528 = .ok (.iload 5, 2) := by decide +kernel
theorem dL_law_530 : decode mL_law.2.1 530 = .ok (.ifCond .ne 15, 3) := by decide +kernel
theorem dL_law_533 : decode mL_law.2.1 533 = .ok (.aload_n 3, 1) := by decide +kernel
theorem dL_law_534 : decode mL_law.2.1 534 = .ok (.iconst 0, 1) := by decide +kernel
theorem dL_law_535 : decode mL_law.2.1 535 = .ok (.laload, 1) := by decide +kernel
theorem dL_law_536 : decode mL_law.2.1 536 = .ok (.iload 6, 2) := by decide +kernel
theorem dL_law_538 : decode mL_law.2.1 538 = .ok (.i2l, 1) := by decide +kernel
theorem dL_law_539 : decode mL_law.2.1 539 = .ok (.lcmp, 1) := by decide +kernel
theorem dL_law_540 : decode mL_law.2.1 540 = .ok (.ifCond .eq 5, 3) := by decide +kernel
theorem dL_law_543 : decode mL_law.2.1 543 = .ok (.iconst 0, 1) := by decide +kernel
theorem dL_law_544 : decode mL_law.2.1 544 = .ok (.ireturn, 1) := by decide +kernel
theorem dL_law_545 : decode mL_law.2.1 545 = .ok (.goto 72, 3) := by decide +kernel
theorem dL_law_548 : decode mL_law.2.1 548 = .ok (.aload_n 1, 1) := by decide +kernel
theorem dL_law_549 : decode mL_law.2.1 549 = .ok (.invokevirtual 89, 3) := by decide +kernel
theorem dL_law_552 : decode mL_law.2.1 552 = .ok (.aload_n 2, 1) := by decide +kernel
theorem dL_law_553 : decode mL_law.2.1 553 = .ok (.invokevirtual 92, 3) := by decide +kernel
theorem dL_law_556 : decode mL_law.2.1 556 = .ok (.if_icmp .eq 61, 3) := by decide +kernel
theorem dL_law_559 : decode mL_law.2.1 559 = .ok (.iconst 0, 1) := by decide +kernel
theorem dL_law_560 : decode mL_law.2.1 560 = .ok (.ireturn, 1) := by decide +kernel
theorem dL_law_561 : decode mL_law.2.1 561 = .ok (.aload_n 1, 1) := by decide +kernel
theorem dL_law_562 : decode mL_law.2.1 562 = .ok (.aload_n 0, 1) := by decide +kernel
theorem dL_law_563 : decode mL_law.2.1 563 = .ok (.iload 4, 2) := by decide +kernel
theorem dL_law_565 : decode mL_law.2.1 565 = .ok (.iconst 1, 1) := by decide +kernel
theorem dL_law_566 : decode mL_law.2.1 566 = .ok (.iadd, 1) := by decide +kernel
theorem dL_law_567 : decode mL_law.2.1 567 = .ok (.iaload, 1) := by decide +kernel
theorem dL_law_568 : decode mL_law.2.1 568 = .ok (.aload_n 3, 1) := by decide +kernel
theorem dL_law_569 : decode mL_law.2.1 569 = .ok (.invokestatic 93, 3) := by decide +kernel
theorem dL_law_572 : decode mL_law.2.1 572 = .ok (.istore 5, 2) := by decide +kernel
theorem dL_law_574 : decode mL_law.2.1 574 = .ok (.aload_n 2, 1) := by decide +kernel
theorem dL_law_575 : decode mL_law.2.1 575 = .ok (.aload_n 0, 1) := by decide +kernel
theorem dL_law_576 : decode mL_law.2.1 576 = .ok (.iload 4, 2) := by decide +kernel
theorem dL_law_578 : decode mL_law.2.1 578 = .ok (.iconst 1, 1) := by decide +kernel
theorem dL_law_579 : decode mL_law.2.1 579 = .ok (.iadd, 1) := by decide +kernel
theorem dL_law_580 : decode mL_law.2.1 580 = .ok (.iaload, 1) := by decide +kernel
theorem dL_law_581 : decode mL_law.2.1 581 = .ok (.invokevirtual 95, 3) := by decide +kernel
theorem dL_law_584 : decode mL_law.2.1 584 = .ok (.istore 6, 2) := by decide +kernel
theorem dL_law_586 : decode mL_law.2.1 586 = .ok (.aload_n 2, 1) := by decide +kernel
theorem dL_law_587 : decode mL_law.2.1 587 = .ok (.invokevirtual 60, 3) := by decide +kernel
theorem dL_law_590 : decode mL_law.2.1 590 = .ok (.iload 5, 2) := by decide +kernel
theorem dL_law_592 : decode mL_law.2.1 592 = .ok (.if_icmp .eq 5, 3) := by decide +kernel
theorem dL_law_595 : decode mL_law.2.1 595 = .ok (.iconst 0, 1) := by decide +kernel
theorem dL_law_596 : decode mL_law.2.1 596 = .ok (.ireturn, 1) := by decide +kernel
theorem dL_law_597 : decode mL_law.2.1 597 = .ok (.iload 5, 2) := by decide +kernel
theorem dL_law_599 : decode mL_law.2.1 599 = .ok (.ifCond .ne 15, 3) := by decide +kernel
theorem dL_law_602 : decode mL_law.2.1 602 = .ok (.aload_n 3, 1) := by decide +kernel
theorem dL_law_603 : decode mL_law.2.1 603 = .ok (.iconst 0, 1) := by decide +kernel
theorem dL_law_604 : decode mL_law.2.1 604 = .ok (.laload, 1) := by decide +kernel
theorem dL_law_605 : decode mL_law.2.1 605 = .ok (.iload 6, 2) := by decide +kernel
theorem dL_law_607 : decode mL_law.2.1 607 = .ok (.i2l, 1) := by decide +kernel
theorem dL_law_608 : decode mL_law.2.1 608 = .ok (.lcmp, 1) := by decide +kernel
theorem dL_law_609 : decode mL_law.2.1 609 = .ok (.ifCond .eq 5, 3) := by decide +kernel
theorem dL_law_612 : decode mL_law.2.1 612 = .ok (.iconst 0, 1) := by decide +kernel
theorem dL_law_613 : decode mL_law.2.1 613 = .ok (.ireturn, 1) := by decide +kernel
theorem dL_law_614 : decode mL_law.2.1 614 = .ok (.goto 3, 3) := by decide +kernel
theorem dL_law_617 : decode mL_law.2.1 617 = .ok (.iinc 4 5, 3) := by decide +kernel
theorem dL_law_620 : decode mL_law.2.1 620 = .ok (.goto (-597), 3) := by decide +kernel
theorem dL_law_623 : decode mL_law.2.1 623 = .ok (.iconst 1, 1) := by decide +kernel
theorem dL_law_624 : decode mL_law.2.1 624 = .ok (.ireturn, 1) := by decide +kernel
def fL (x : Int32) : Nat := x.toInt64.toBitVec.toNat
theorem fL_eq (x : Int32) : x.toInt64 = lN (fL x) := wb_inj (by rw [wb_tb]; simp [fL])
theorem lg_cmp_self (x : Int64) : lg_cmp x x = nI 0 := by
  simp [lg_cmp]
  try rfl
section KLW
variable {p : Program} {l : Launch} {e : Env} {s : State} {m : MethodId} {args : Array Value} {below : List Frame} {meth : Method} {c : Code} {F : Nat → Prop} {Q : State → Prop} {g : z_G} {μ μ' : z_M} {rm rm' : Room} {cn sn pc idx : Nat} {L : List (Nat × Value)} {S rest : List Value} {ws : va_W} {ad : Nat → Nat} {A B : z_A} {E' : Option Value → z_A → z_A → Prop}
theorem k_isubX (hC : z_C g μ p s m args meth c) {x y : Int32} (hd : decode μ.2.1 pc = .ok (.isub, 1)) (k : k_R p l e s m args below meth c F Q g μ rm cn sn (pc + 1) L (.int (x - y) :: S) ws) : k_R p l e s m args below meth c F Q g μ rm cn sn pc L (.int y :: .int x :: S) ws := by
  intro H locs ls hP hD hS hl
  exact lv_isub hC.1 hC.2.1 hd (k H locs ls hP hD hS hl)
theorem k_i2lX (hC : z_C g μ p s m args meth c) {x : Int32} (hd : decode μ.2.1 pc = .ok (.i2l, 1)) (k : k_R p l e s m args below meth c F Q g μ rm cn sn (pc + 1) L (.long (lN (fL x)) :: S) ws) : k_R p l e s m args below meth c F Q g μ rm cn sn pc L (.int x :: S) ws := by
  intro H locs ls hP hD hS hl
  exact lv_i2l hC.1 hC.2.1 hd (fL_eq x) (k H locs ls hP hD hS hl)
theorem k_sld (hC : z_C g μ p s m args meth c) {b Ln : Nat} {xs : Nat → Int32} (hX : va_X b Ln xs s s.heap) (hbl : b < s.heap.size) (hbF : ¬ F b) (hn : Ln < 2 ^ 31) {j : Nat} (hj : j < Ln) (hd : decode μ.2.1 pc = .ok (.iaload, 1)) (k : k_R p l e s m args below meth c F Q g μ rm cn sn (pc + 1) L (.int (xs j) :: S) ws) : k_R p l e s m args below meth c F Q g μ rm cn sn pc L (.int (nI j) :: .ref b :: S) ws := by
  intro H locs ls hP hD hS hl
  have K := k H locs ls hP hD hS hl
  refine va_sld hC.1 hC.2.1 hX hbl hbF hS (vp_in_nI hj hn) hd ?_
  rw [nI_clamp (by omega)]
  exact K
theorem k_slen (hC : z_C g μ p s m args meth c) {b Ln : Nat} {xs : Nat → Int32} (hX : va_X b Ln xs s s.heap) (hbl : b < s.heap.size) (hbF : ¬ F b) (hd : decode μ.2.1 pc = .ok (.arraylength, 1)) (k : k_R p l e s m args below meth c F Q g μ rm cn sn (pc + 1) L (.int (nI Ln) :: S) ws) : k_R p l e s m args below meth c F Q g μ rm cn sn pc L (.ref b :: S) ws := by
  intro H locs ls hP hD hS hl
  exact va_slen hC.1 hC.2.1 hX hbl hbF hS hd (k H locs ls hP hD hS hl)
theorem k_laload (hC : z_C g μ p s m args meth c) {k0 j n : Nat} (hk : k0 < z_N) (hs : z_sh k0 = (1, n, [])) (hn : n < 2 ^ 31) (hj : j < n) (hd : decode μ.2.1 pc = .ok (.laload, 1)) (k : k_R p l e s m args below meth c F Q g μ rm cn sn (pc + 1) L (.long (lN (B k0 j)) :: S) (z_w g ad A B)) : k_R p l e s m args below meth c F Q g μ rm cn sn pc L (.int (nI j) :: .ref (ad k0) :: S) (z_w g ad A B) := by
  intro H locs ls hP hD hS hl
  have K := k H locs ls hP hD hS hl
  refine va_lald hC.1 hC.2.1 hC.2.2.2.2.2.2.1 hP k0 1 ((z_w_get g ad A B hk).trans (by rw [z_cell_la hs])) rfl (vp_in_nI hj hn) hd ?_
  rw [nI_clamp (by omega)]
  exact K
theorem k_tableIn (hC : z_C g μ p s m args meth c) {dflt lo hi : Int} {offs : Array Int} {len : Nat} {x : Int32} {off : Int} {tgt : Nat} (h1 : ¬ x.toInt < lo) (h2 : ¬ hi < x.toInt) (ho : offs[(x.toInt - lo).toNat]? = some off) (ht : (pc : Int) + off = (tgt : Int)) (hd : decode μ.2.1 pc = .ok (.tableswitch dflt lo hi offs, len)) (k : k_R p l e s m args below meth c F Q g μ rm cn sn tgt L S ws) : k_R p l e s m args below meth c F Q g μ rm cn sn pc L (.int x :: S) ws := by
  intro H locs ls hP hD hS hl
  exact lv_tableIn hC.1 hC.2.1 hd h1 h2 ho ht (k H locs ls hP hD hS hl)
theorem k_tableOut (hC : z_C g μ p s m args meth c) {dflt lo hi : Int} {offs : Array Int} {len : Nat} {x : Int32} {tgt : Nat} (h : x.toInt < lo ∨ hi < x.toInt) (ht : (pc : Int) + dflt = (tgt : Int)) (hd : decode μ.2.1 pc = .ok (.tableswitch dflt lo hi offs, len)) (k : k_R p l e s m args below meth c F Q g μ rm cn sn tgt L S ws) : k_R p l e s m args below meth c F Q g μ rm cn sn pc L (.int x :: S) ws := by
  intro H locs ls hP hD hS hl
  exact lv_tableOut hC.1 hC.2.1 hd h ht (k H locs ls hP hD hS hl)
theorem l_after (hF : ∀ q, s.heap.size ≤ q → F q) {mc ms : Nat} {H : Heap} {locs : List Loc} {ls : Array Slot} {st0 : List Value} {a : Array Value} (hP : va_P g.1 z_cl (z_w g ad A B) H) (hD : va_D F (z_w g ad A B)) (hS : va_S F s.heap H locs) (hl : lv_has ls μ.2.2.1 L)
    (run : va_Run p l e rm s m args below meth c H locs cn sn mc ms (F0 m pc ls st0) rest (z_Qc g ad E' (va_A (z_w g ad A B) H.size) a) (va_A (z_w g ad A B) H.size))
    (kk : ∀ (r : Option Value) (A' B' : z_A), E' r A' B' → k_R p l e s m args below meth c F Q g μ rm (cn + mc) (sn + ms) (pc + 3) L (r.toList ++ rest) (z_w g ad A' B')) : W p l e rm s m args below meth c H locs cn sn Q (F0 m pc ls st0) := by
  intro T hT X
  obtain ⟨v, st₀, t, T', L1, h0, X', hL, e1, e2, ⟨⟨r, A', B', hv, hE, hP'⟩, hz, hk⟩, st⟩ := run T hT X
  cases hv
  rw [h0] at hz hk
  have hfree : ∀ q, va_A (z_w g ad A B) H.size q → F q := fun q h => by
    rcases h with ⟨k, e9, h⟩ | h
    · exact hD.2 k (q, e9) h
    · exact hF q (Nat.le_trans hS.1 h)
  have hS' : va_S F s.heap T'.heap (locs ++ L1) := ⟨Nat.le_trans hS.1 (by rw [e1]; exact hz), fun q h1 h2 => by
      rw [e1, hk q (Nat.lt_of_lt_of_le h1 hS.1) (fun z => h2 (hfree q z))]
      exact hS.2.1 q h1 h2, fun q hq => by
      rcases List.mem_append.mp hq with h | h
      · exact hS.2.2 q h
      · exact hfree _ (hL q h)⟩
  obtain ⟨t2, a1, b1⟩ := kk v A' B' hE T'.heap (locs ++ L1) ls (by rw [e1]; exact hP') (z_D_moves hD) hS' hl T' rfl X'
  exact ⟨t2, st t2 a1, b1⟩
theorem l_callV (hC : z_C g μ p s m args meth c) (hF : ∀ q, s.heap.size ≤ q → F q) (hZ : z_Zq F s s.heap) {As : List Value} {n k ci Nf : Nat} {fs : List (Nat × Nat)} {T : u_T} {st0 : List Value} (hM : z_Met l g ad μ' rm' (.ref (ad k) :: As) A B E') (hrm : z_room rm rm' μ') (ho : z_ob k ci fs) (hc : z_cl[ci]? = some (μ'.1.cls, T, Nf)) (hcw : z_cwV μ.1.cls idx μ' n) (hn : As.length = n) (hstk : st0 = As.reverse ++ .ref (ad k) :: rest) (hw8 : (rest.map fun v => v.category).sum ≤ 8)
    (hcs : cn + 0 ≤ rm.cells ∧ sn + 0 ≤ rm.slots) (hd : decode μ.2.1 pc = .ok (.invokevirtual idx, 3)) (kk : ∀ (r : Option Value) (A' B' : z_A), E' r A' B' → k_R p l e s m args below meth c F Q g μ rm cn sn (pc + 3) L (r.toList ++ rest) (z_w g ad A' B')) : k_R p l e s m args below meth c F Q g μ rm cn sn pc L st0 (z_w g ad A B) := by
  obtain ⟨hk, hs⟩ := ho
  obtain ⟨hcode, hini, hlink, hin, hsel, hd0⟩ := hcw
  intro H locs ls hP hD hS hl
  have hts := hC.2.2.2.2.2.1
  refine l_after (E' := E') (mc := 0) (ms := 0) (a := (.ref (ad k) :: As).toArray) hF hP hD hS hl ?_ kk
  exact va_runV (own := μ.1.cls) (C := μ'.1.cls) (bytes := μ'.2.1) (maxL := μ'.2.2.1) (ret := μ'.2.2.2) (ws := z_ws μ') (n := n) ⟨hC.1, hC.2.1, hC.2.2.1, hC.2.2.2.2.1, hts⟩ (hM H.size) ⟨callB_of n hts (z_goodT hcode) rfl hrm.1 hrm.2.1 (hts _ hini) (hts _ hlink) hd0 ⟨hrm.2.2.1, hrm.2.2.2⟩, hts _ hin, hts _ hsel⟩ ⟨z_blind, va_recv hC.2.2.2.2.2.2.1 hP hc ((z_w_get g ad A B hk).trans (by rw [hs]; rfl)), z_pre hC.2.2.2.2.2.2 ⟨hP, hD, hS, hF, hZ⟩⟩ rfl hn hl.1 hstk (lv_room hw8) hd hcs
def l_cw (own : String) (idx : Nat) (μ' : z_M) (hh : List (Nat × Nat × Nat × Nat)) (n : Nat) : Prop := Cond.codeWith μ'.1 μ'.2.1 μ'.2.2.1 μ'.2.2.2 hh ∈ z_TB ∧ Cond.initialized μ'.1.cls ∈ z_TB ∧ Cond.methodLink own idx μ'.1 ∈ z_TB ∧ Cond.static μ'.1 ∈ z_TB ∧ (μ'.1.cls ≠ "java/lang/invoke/MethodHandle" ∧ μ'.1.cls ≠ "java/lang/invoke/VarHandle" ∧ (parseMethodDescriptor μ'.1.desc).map (fun d => d.parameters.length) = some n)
theorem z_goodH {hh : List (Nat × Nat × Nat × Nat)} (h : Cond.codeWith μ'.1 μ'.2.1 μ'.2.2.1 μ'.2.2.2 hh ∈ z_TB) : GoodIn z_TB (z_wsH μ' hh) := by
  intro w hw
  rcases List.mem_cons.mp hw with rfl | hw
  · exact ⟨h, good_of_word (List.mem_filter.mp h).2⟩
  · exact ⟨hw, good_of_word (List.mem_filter.mp hw).2⟩
theorem l_callW (hC : z_C g μ p s m args meth c) (hF : ∀ q, s.heap.size ≤ q → F q) (hZ : z_Zq F s s.heap) {hh : List (Nat × Nat × Nat × Nat)} {As : List Value} {n : Nat} {st0 : List Value} (hM : z_WMet l g ad μ' hh rm' As A B E') (hrm : z_roomx rm rm' μ') (hcw : l_cw μ.1.cls idx μ' hh n) (hn : As.length = n) (hstk : st0 = As.reverse ++ rest) (hw8 : (rest.map fun v => v.category).sum ≤ 8)
    (hcs2 : cn + rm'.cells ≤ rm.cells ∧ sn + rm'.slots ≤ rm.slots) (hd : decode μ.2.1 pc = .ok (.invokestatic idx, 3)) (kk : ∀ (r : Option Value) (A' B' : z_A), E' r A' B' → k_R p l e s m args below meth c F Q g μ rm (cn + rm'.cells) (sn + rm'.slots) (pc + 3) L (r.toList ++ rest) (z_w g ad A' B')) : k_R p l e s m args below meth c F Q g μ rm cn sn pc L st0 (z_w g ad A B) := by
  obtain ⟨hcd, hini, hlink, hstt, hd0, hd1, hd2⟩ := hcw
  intro H locs ls hP hD hS hl
  have hts := hC.2.2.2.2.2.1
  refine l_after (E' := E') (mc := rm'.cells) (ms := rm'.slots) (a := As.toArray) hF hP hD hS hl ?_ kk
  refine vx_runSW (own := μ.1.cls) (bytes := μ'.2.1) (maxL := μ'.2.2.1) (ret := μ'.2.2.2) (hh := hh) (ws := z_wsH μ' hh) (n := n) (Ts := z_TB) ⟨hC.1, hC.2.1, hC.2.2.1, hC.2.2.2.2.1, hts⟩ (hM H.size) ⟨⟨rfl, rfl, hrm.1, hrm.2, pay_in hts (z_goodH hcd), List.mem_cons_self⟩, hts _ hcd, hts _ hini, ⟨hd0, hd1⟩, fun sig h => ?_, hts _ hlink, hts _ hstt⟩ ⟨z_blind, z_pre hC.2.2.2.2.2.2 ⟨hP, hD, hS, hF, hZ⟩⟩ rfl hn hl.1 hstk (lv_room hw8) hd hcs2
  rw [h] at hd2
  exact (Option.some.inj hd2).symm
end KLW
theorem zcw_type : l_cw "TwoSealsLaw" 54 mL_type hhL_type 5 := ⟨whL_type, wn_L, wl_L_54, ws_L_type, by decide, by decide, by decide +kernel⟩
theorem zcw_clear : l_cw "TwoSealsLaw" 64 mL_clear hhL_clear 3 := ⟨whL_clear, wn_L, wl_L_64, ws_L_clear, by decide, by decide, by decide +kernel⟩
theorem zcw_poke : l_cw "TwoSealsLaw" 68 mL_poke hhL_poke 4 := ⟨whL_poke, wn_L, wl_L_68, ws_L_poke, by decide, by decide, by decide +kernel⟩
theorem zcw_take : l_cw "TwoSealsLaw" 72 mL_take hhL_take 3 := ⟨whL_take, wn_L, wl_L_72, ws_L_take, by decide, by decide, by decide +kernel⟩
theorem zcw_block : l_cw "TwoSealsLaw" 75 mL_block hhL_block 1 := ⟨whL_block, wn_L, wl_L_75, ws_L_block, by decide, by decide, by decide +kernel⟩
theorem zcw_hash : l_cw "TwoSealsLaw" 79 mL_hash hhL_hash 2 := ⟨whL_hash, wn_L, wl_L_79, ws_L_hash, by decide, by decide, by decide +kernel⟩
theorem zcw_seal : l_cw "TwoSealsLaw" 83 mL_seal hhL_seal 3 := ⟨whL_seal, wn_L, wl_L_83, ws_L_seal, by decide, by decide, by decide +kernel⟩
theorem zcw_open : l_cw "TwoSealsLaw" 86 mL_open hhL_open 3 := ⟨whL_open, wn_L, wl_L_86, ws_L_open, by decide, by decide, by decide +kernel⟩
theorem zcw_at : l_cw "TwoSealsLaw" 93 mL_at hhL_at 3 := ⟨whL_at, wn_L, wl_L_93, ws_L_at, by decide, by decide, by decide +kernel⟩
theorem zcm_type : z_cwV "TwoSealsLaw" 59 mM_type 3 := ⟨wcmM_type, wn_M, wl_L_59, wi_M_type, wv_M_M_type, by decide, by decide, by decide +kernel⟩
theorem zcm_clear : z_cwV "TwoSealsLaw" 67 mM_clear 1 := ⟨wcmM_clear, wn_M, wl_L_67, wi_M_clear, wv_M_M_clear, by decide, by decide, by decide +kernel⟩
theorem zcm_poke : z_cwV "TwoSealsLaw" 71 mM_poke 3 := ⟨wcmM_poke, wn_M, wl_L_71, wi_M_poke, wv_M_M_poke, by decide, by decide, by decide +kernel⟩
theorem zcm_take : z_cwV "TwoSealsLaw" 74 mM_take 1 := ⟨wcmM_take, wn_M, wl_L_74, wi_M_take, wv_M_M_take, by decide, by decide, by decide +kernel⟩
theorem zcm_block : z_cwV "TwoSealsLaw" 78 mM_block 0 := ⟨wcmM_block, wn_M, wl_L_78, wi_M_block, wv_M_M_block, by decide, by decide, by decide +kernel⟩
theorem zcm_hash : z_cwV "TwoSealsLaw" 82 mM_hash 1 := ⟨wcmM_hash, wn_M, wl_L_82, wi_M_hash, wv_M_M_hash, by decide, by decide, by decide +kernel⟩
theorem zcm_seal : z_cwV "TwoSealsLaw" 85 mM_seal 1 := ⟨wcmM_seal, wn_M, wl_L_85, wi_M_seal, wv_M_M_seal, by decide, by decide, by decide +kernel⟩
theorem zcm_open : z_cwV "TwoSealsLaw" 88 mM_open 1 := ⟨wcmM_open, wn_M, wl_L_88, wi_M_open, wv_M_M_open, by decide, by decide, by decide +kernel⟩
theorem zcm_at : z_cwV "TwoSealsLaw" 95 mM_at 1 := ⟨wcmM_at, wn_M, wl_L_95, wi_M_at, wv_M_M_at, by decide, by decide, by decide +kernel⟩
theorem zcm_thrown : z_cwV "TwoSealsLaw" 60 mM_thrown 0 := ⟨wcmM_thrown, wn_M, wl_L_60, wi_M_thrown, wv_M_M_thrown, by decide, by decide, by decide +kernel⟩
theorem zcm_size : z_cwV "TwoSealsLaw" 92 mM_size 0 := ⟨wcmM_size, wn_M, wl_L_92, wi_M_size, wv_M_M_size, by decide, by decide, by decide +kernel⟩
theorem zcs_size : z_cwV "TwoSealsLaw" 89 mS_size 0 := ⟨wcmS_size, wn_S, wl_L_89, wi_S_size, wv_S_S_size, by decide, by decide, by decide +kernel⟩
