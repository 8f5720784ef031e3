theorem d_Lw_law_0 : decode b_Lw_law 0 = .ok (.new 8, 3) := by decide +kernel
theorem d_Lw_law_3 : decode b_Lw_law 3 = .ok (.dup, 1) := by decide +kernel
theorem d_Lw_law_4 : decode b_Lw_law 4 = .ok (.invokespecial 62, 3) := by decide +kernel
theorem d_Lw_law_7 : decode b_Lw_law 7 = .ok (.astore_n 1, 1) := by decide +kernel
theorem d_Lw_law_8 : decode b_Lw_law 8 = .ok (.new 63, 3) := by decide +kernel
theorem d_Lw_law_11 : decode b_Lw_law 11 = .ok (.dup, 1) := by decide +kernel
theorem d_Lw_law_12 : decode b_Lw_law 12 = .ok (.invokespecial 65, 3) := by decide +kernel
theorem d_Lw_law_15 : decode b_Lw_law 15 = .ok (.astore_n 2, 1) := by decide +kernel
theorem d_Lw_law_16 : decode b_Lw_law 16 = .ok (.iconst 1, 1) := by decide +kernel
theorem d_Lw_law_17 : decode b_Lw_law 17 = .ok (.newarray .long, 2) := by decide +kernel
theorem d_Lw_law_19 : decode b_Lw_law 19 = .ok (.astore_n 3, 1) := by decide +kernel
theorem d_Lw_law_20 : decode b_Lw_law 20 = .ok (.iconst 0, 1) := by decide +kernel
theorem d_Lw_law_21 : decode b_Lw_law 21 = .ok (.istore 4, 2) := by decide +kernel
theorem d_Lw_law_23 : decode b_Lw_law 23 = .ok (.iload 4, 2) := by decide +kernel
theorem d_Lw_law_25 : decode b_Lw_law 25 = .ok (.aload_n 0, 1) := by decide +kernel
theorem d_Lw_law_26 : decode b_Lw_law 26 = .ok (.arraylength, 1) := by decide +kernel
theorem d_Lw_law_27 : decode b_Lw_law 27 = .ok (.bipush 6, 2) := by decide +kernel
theorem d_Lw_law_29 : decode b_Lw_law 29 = .ok (.isub, 1) := by decide +kernel
theorem d_Lw_law_30 : decode b_Lw_law 30 = .ok (.if_icmp .gt 957, 3) := by decide +kernel
theorem d_Lw_law_33 : decode b_Lw_law 33 = .ok (.aload_n 0, 1) := by decide +kernel
theorem d_Lw_law_34 : decode b_Lw_law 34 = .ok (.iload 4, 2) := by decide +kernel
theorem d_Lw_law_36 : decode b_Lw_law 36 = .ok (.iaload, 1) := by decide +kernel
theorem d_Lw_law_37 : decode b_Lw_law 37 = .ok (.bipush 15, 2) := by decide +kernel
theorem d_Lw_law_39 : decode b_Lw_law 39 = .ok (.iand, 1) := by decide +kernel
theorem d_Lw_law_40 : decode b_Lw_law 40 = .ok (.tableswitch 941 0 13 #[72, 156, 209, 289, 345, 401, 457, 513, 569, 637, 705, 773, 829, 885], 72) := by decide +kernel
theorem d_Lw_law_112 : decode b_Lw_law 112 = .ok (.aload_n 1, 1) := by decide +kernel
theorem d_Lw_law_113 : decode b_Lw_law 113 = .ok (.aload_n 0, 1) := by decide +kernel
theorem d_Lw_law_114 : decode b_Lw_law 114 = .ok (.iload 4, 2) := by decide +kernel
theorem d_Lw_law_116 : decode b_Lw_law 116 = .ok (.iconst 1, 1) := by decide +kernel
theorem d_Lw_law_117 : decode b_Lw_law 117 = .ok (.iadd, 1) := by decide +kernel
theorem d_Lw_law_118 : decode b_Lw_law 118 = .ok (.iaload, 1) := by decide +kernel
theorem d_Lw_law_119 : decode b_Lw_law 119 = .ok (.aload_n 0, 1) := by decide +kernel
theorem d_Lw_law_120 : decode b_Lw_law 120 = .ok (.iload 4, 2) := by decide +kernel
theorem d_Lw_law_122 : decode b_Lw_law 122 = .ok (.iconst 2, 1) := by decide +kernel
theorem d_Lw_law_123 : decode b_Lw_law 123 = .ok (.iadd, 1) := by decide +kernel
theorem d_Lw_law_124 : decode b_Lw_law 124 = .ok (.iaload, 1) := by decide +kernel
theorem d_Lw_law_125 : decode b_Lw_law 125 = .ok (.aload_n 0, 1) := by decide +kernel
theorem d_Lw_law_126 : decode b_Lw_law 126 = .ok (.iload 4, 2) := by decide +kernel
theorem d_Lw_law_128 : decode b_Lw_law 128 = .ok (.iconst 3, 1) := by decide +kernel
theorem d_Lw_law_129 : decode b_Lw_law 129 = .ok (.iadd, 1) := by decide +kernel
theorem d_Lw_law_130 : decode b_Lw_law 130 = .ok (.iaload, 1) := by decide +kernel
theorem d_Lw_law_131 : decode b_Lw_law 131 = .ok (.aload_n 0, 1) := by decide +kernel
theorem d_Lw_law_132 : decode b_Lw_law 132 = .ok (.iload 4, 2) := by decide +kernel
theorem d_Lw_law_134 : decode b_Lw_law 134 = .ok (.iconst 4, 1) := by decide +kernel
theorem d_Lw_law_135 : decode b_Lw_law 135 = .ok (.iadd, 1) := by decide +kernel
theorem d_Lw_law_136 : decode b_Lw_law 136 = .ok (.iaload, 1) := by decide +kernel
theorem d_Lw_law_137 : decode b_Lw_law 137 = .ok (.aload_n 0, 1) := by decide +kernel
theorem d_Lw_law_138 : decode b_Lw_law 138 = .ok (.iload 4, 2) := by decide +kernel
theorem d_Lw_law_140 : decode b_Lw_law 140 = .ok (.iconst 5, 1) := by decide +kernel
theorem d_Lw_law_141 : decode b_Lw_law 141 = .ok (.iadd, 1) := by decide +kernel
theorem d_Lw_law_142 : decode b_Lw_law 142 = .ok (.iaload, 1) := by decide +kernel
theorem d_Lw_law_143 : decode b_Lw_law 143 = .ok (.invokestatic 66, 3) := by decide +kernel
theorem d_Lw_law_146 : decode b_Lw_law 146 = .ok (.istore 5, 2) := by decide +kernel
theorem d_Lw_law_148 : decode b_Lw_law 148 = .ok (.aload_n 2, 1) := by decide +kernel
theorem d_Lw_law_149 : decode b_Lw_law 149 = .ok (.aload_n 0, 1) := by decide +kernel
theorem d_Lw_law_150 : decode b_Lw_law 150 = .ok (.iload 4, 2) := by decide +kernel
theorem d_Lw_law_152 : decode b_Lw_law 152 = .ok (.iconst 1, 1) := by decide +kernel
theorem d_Lw_law_153 : decode b_Lw_law 153 = .ok (.iadd, 1) := by decide +kernel
theorem d_Lw_law_154 : decode b_Lw_law 154 = .ok (.iaload, 1) := by decide +kernel
theorem d_Lw_law_155 : decode b_Lw_law 155 = .ok (.aload_n 0, 1) := by decide +kernel
theorem d_Lw_law_156 : decode b_Lw_law 156 = .ok (.iload 4, 2) := by decide +kernel
theorem d_Lw_law_158 : decode b_Lw_law 158 = .ok (.iconst 2, 1) := by decide +kernel
theorem d_Lw_law_159 : decode b_Lw_law 159 = .ok (.iadd, 1) := by decide +kernel
theorem d_Lw_law_160 : decode b_Lw_law 160 = .ok (.iaload, 1) := by decide +kernel
theorem d_Lw_law_161 : decode b_Lw_law 161 = .ok (.aload_n 0, 1) := by decide +kernel
theorem d_Lw_law_162 : decode b_Lw_law 162 = .ok (.iload 4, 2) := by decide +kernel
theorem d_Lw_law_164 : decode b_Lw_law 164 = .ok (.iconst 3, 1) := by decide +kernel
theorem d_Lw_law_165 : decode b_Lw_law 165 = .ok (.iadd, 1) := by decide +kernel
theorem d_Lw_law_166 : decode b_Lw_law 166 = .ok (.iaload, 1) := by decide +kernel
theorem d_Lw_law_167 : decode b_Lw_law 167 = .ok (.aload_n 0, 1) := by decide +kernel
theorem d_Lw_law_168 : decode b_Lw_law 168 = .ok (.iload 4, 2) := by decide +kernel
theorem d_Lw_law_170 : decode b_Lw_law 170 = .ok (.iconst 4, 1) := by decide +kernel
theorem d_Lw_law_171 : decode b_Lw_law 171 = .ok (.iadd, 1) := by decide +kernel
theorem d_Lw_law_172 : decode b_Lw_law 172 = .ok (.iaload, 1) := by decide +kernel
theorem d_Lw_law_173 : decode b_Lw_law 173 = .ok (.aload_n 0, 1) := by decide +kernel
theorem d_Lw_law_174 : decode b_Lw_law 174 = .ok (.iload 4, 2) := by decide +kernel
theorem d_Lw_law_176 : decode b_Lw_law 176 = .ok (.iconst 5, 1) := by decide +kernel
theorem d_Lw_law_177 : decode b_Lw_law 177 = .ok (.iadd, 1) := by decide +kernel
theorem d_Lw_law_178 : decode b_Lw_law 178 = .ok (.iaload, 1) := by decide +kernel
theorem d_Lw_law_179 : decode b_Lw_law 179 = .ok (.invokevirtual 71, 3) := by decide +kernel
theorem d_Lw_law_182 : decode b_Lw_law 182 = .ok (.aload_n 2, 1) := by decide +kernel
theorem d_Lw_law_183 : decode b_Lw_law 183 = .ok (.invokevirtual 72, 3) := by decide +kernel
theorem d_Lw_law_186 : decode b_Lw_law 186 = .ok (.iload 5, 2) := by decide +kernel
theorem d_Lw_law_188 : decode b_Lw_law 188 = .ok (.if_icmp .eq 5, 3) := by decide +kernel
theorem d_Lw_law_191 : decode b_Lw_law 191 = .ok (.iconst 0, 1) := by decide +kernel
theorem d_Lw_law_192 : decode b_Lw_law 192 = .ok (.ireturn, 1) := by decide +kernel
theorem d_Lw_law_193 : decode b_Lw_law 193 = .ok (.goto 788, 3) := by decide +kernel
theorem d_Lw_law_196 : decode b_Lw_law 196 = .ok (.aload_n 1, 1) := by decide +kernel
theorem d_Lw_law_197 : decode b_Lw_law 197 = .ok (.aload_n 0, 1) := by decide +kernel
theorem d_Lw_law_198 : decode b_Lw_law 198 = .ok (.iload 4, 2) := by decide +kernel
theorem d_Lw_law_200 : decode b_Lw_law 200 = .ok (.iconst 1, 1) := by decide +kernel
theorem d_Lw_law_201 : decode b_Lw_law 201 = .ok (.iadd, 1) := by decide +kernel
theorem d_Lw_law_202 : decode b_Lw_law 202 = .ok (.iaload, 1) := by decide +kernel
theorem d_Lw_law_203 : decode b_Lw_law 203 = .ok (.ifCond .eq 7, 3) := by decide +kernel
theorem d_Lw_law_206 : decode b_Lw_law 206 = .ok (.iconst 1, 1) := by decide +kernel
theorem d_Lw_law_207 : decode b_Lw_law 207 = .ok (.goto 4, 3) := by decide +kernel
theorem d_Lw_law_210 : decode b_Lw_law 210 = .ok (.iconst 0, 1) := by decide +kernel
theorem d_Lw_law_211 : decode b_Lw_law 211 = .ok (.aload_n 0, 1) := by decide +kernel
theorem d_Lw_law_212 : decode b_Lw_law 212 = .ok (.iload 4, 2) := by decide +kernel
theorem d_Lw_law_214 : decode b_Lw_law 214 = .ok (.iconst 2, 1) := by decide +kernel
theorem d_Lw_law_215 : decode b_Lw_law 215 = .ok (.iadd, 1) := by decide +kernel
theorem d_Lw_law_216 : decode b_Lw_law 216 = .ok (.iaload, 1) := by decide +kernel
theorem d_Lw_law_217 : decode b_Lw_law 217 = .ok (.invokevirtual 76, 3) := by decide +kernel
theorem d_Lw_law_220 : decode b_Lw_law 220 = .ok (.aload_n 2, 1) := by decide +kernel
theorem d_Lw_law_221 : decode b_Lw_law 221 = .ok (.aload_n 0, 1) := by decide +kernel
theorem d_Lw_law_222 : decode b_Lw_law 222 = .ok (.iload 4, 2) := by decide +kernel
theorem d_Lw_law_224 : decode b_Lw_law 224 = .ok (.iconst 1, 1) := by decide +kernel
theorem d_Lw_law_225 : decode b_Lw_law 225 = .ok (.iadd, 1) := by decide +kernel
theorem d_Lw_law_226 : decode b_Lw_law 226 = .ok (.iaload, 1) := by decide +kernel
theorem d_Lw_law_227 : decode b_Lw_law 227 = .ok (.ifCond .eq 7, 3) := by decide +kernel
theorem d_Lw_law_230 : decode b_Lw_law 230 = .ok (.iconst 1, 1) := by decide +kernel
theorem d_Lw_law_231 : decode b_Lw_law 231 = .ok (.goto 4, 3) := by decide +kernel
theorem d_Lw_law_234 : decode b_Lw_law 234 = .ok (.iconst 0, 1) := by decide +kernel
theorem d_Lw_law_235 : decode b_Lw_law 235 = .ok (.aload_n 0, 1) := by decide +kernel
theorem d_Lw_law_236 : decode b_Lw_law 236 = .ok (.iload 4, 2) := by decide +kernel
theorem d_Lw_law_238 : decode b_Lw_law 238 = .ok (.iconst 2, 1) := by decide +kernel
theorem d_Lw_law_239 : decode b_Lw_law 239 = .ok (.iadd, 1) := by decide +kernel
theorem d_Lw_law_240 : decode b_Lw_law 240 = .ok (.iaload, 1) := by decide +kernel
theorem d_Lw_law_241 : decode b_Lw_law 241 = .ok (.invokevirtual 80, 3) := by decide +kernel
theorem d_Lw_law_244 : decode b_Lw_law 244 = .ok (.if_icmp .eq 737, 3) := by decide +kernel
theorem d_Lw_law_247 : decode b_Lw_law 247 = .ok (.iconst 0, 1) := by decide +kernel
theorem d_Lw_law_248 : decode b_Lw_law 248 = .ok (.ireturn, 1) := by decide +kernel
theorem d_Lw_law_249 : decode b_Lw_law 249 = .ok (.aload_n 1, 1) := by decide +kernel
theorem d_Lw_law_250 : decode b_Lw_law 250 = .ok (.aload_n 0, 1) := by decide +kernel
theorem d_Lw_law_251 : decode b_Lw_law 251 = .ok (.iload 4, 2) := by decide +kernel
theorem d_Lw_law_253 : decode b_Lw_law 253 = .ok (.iconst 1, 1) := by decide +kernel
theorem d_Lw_law_254 : decode b_Lw_law 254 = .ok (.iadd, 1) := by decide +kernel
theorem d_Lw_law_255 : decode b_Lw_law 255 = .ok (.iaload, 1) := by decide +kernel
theorem d_Lw_law_256 : decode b_Lw_law 256 = .ok (.aload_n 0, 1) := by decide +kernel
theorem d_Lw_law_257 : decode b_Lw_law 257 = .ok (.iload 4, 2) := by decide +kernel
theorem d_Lw_law_259 : decode b_Lw_law 259 = .ok (.iconst 2, 1) := by decide +kernel
theorem d_Lw_law_260 : decode b_Lw_law 260 = .ok (.iadd, 1) := by decide +kernel
theorem d_Lw_law_261 : decode b_Lw_law 261 = .ok (.iaload, 1) := by decide +kernel
theorem d_Lw_law_262 : decode b_Lw_law 262 = .ok (.aload_n 0, 1) := by decide +kernel
theorem d_Lw_law_263 : decode b_Lw_law 263 = .ok (.iload 4, 2) := by decide +kernel
theorem d_Lw_law_265 : decode b_Lw_law 265 = .ok (.iconst 3, 1) := by decide +kernel
theorem d_Lw_law_266 : decode b_Lw_law 266 = .ok (.iadd, 1) := by decide +kernel
theorem d_Lw_law_267 : decode b_Lw_law 267 = .ok (.iaload, 1) := by decide +kernel
theorem d_Lw_law_268 : decode b_Lw_law 268 = .ok (.aload_n 3, 1) := by decide +kernel
theorem d_Lw_law_269 : decode b_Lw_law 269 = .ok (.invokestatic 81, 3) := by decide +kernel
theorem d_Lw_law_272 : decode b_Lw_law 272 = .ok (.istore 5, 2) := by decide +kernel
theorem d_Lw_law_274 : decode b_Lw_law 274 = .ok (.aload_n 2, 1) := by decide +kernel
theorem d_Lw_law_275 : decode b_Lw_law 275 = .ok (.aload_n 0, 1) := by decide +kernel
theorem d_Lw_law_276 : decode b_Lw_law 276 = .ok (.iload 4, 2) := by decide +kernel
theorem d_Lw_law_278 : decode b_Lw_law 278 = .ok (.iconst 1, 1) := by decide +kernel
theorem d_Lw_law_279 : decode b_Lw_law 279 = .ok (.iadd, 1) := by decide +kernel
theorem d_Lw_law_280 : decode b_Lw_law 280 = .ok (.iaload, 1) := by decide +kernel
theorem d_Lw_law_281 : decode b_Lw_law 281 = .ok (.aload_n 0, 1) := by decide +kernel
theorem d_Lw_law_282 : decode b_Lw_law 282 = .ok (.iload 4, 2) := by decide +kernel
theorem d_Lw_law_284 : decode b_Lw_law 284 = .ok (.iconst 2, 1) := by decide +kernel
theorem d_Lw_law_285 : decode b_Lw_law 285 = .ok (.iadd, 1) := by decide +kernel
theorem d_Lw_law_286 : decode b_Lw_law 286 = .ok (.iaload, 1) := by decide +kernel
theorem d_Lw_law_287 : decode b_Lw_law 287 = .ok (.aload_n 0, 1) := by decide +kernel
theorem d_Lw_law_288 : decode b_Lw_law 288 = .ok (.iload 4, 2) := by decide +kernel
theorem d_Lw_law_290 : decode b_Lw_law 290 = .ok (.iconst 3, 1) := by decide +kernel
theorem d_Lw_law_291 : decode b_Lw_law 291 = .ok (.iadd, 1) := by decide +kernel
theorem d_Lw_law_292 : decode b_Lw_law 292 = .ok (.iaload, 1) := by decide +kernel
theorem d_Lw_law_293 : decode b_Lw_law 293 = .ok (.invokevirtual 84, 3) := by decide +kernel
theorem d_Lw_law_296 : decode b_Lw_law 296 = .ok (.istore 6, 2) := by decide +kernel
theorem d_Lw_law_298 : decode b_Lw_law 298 = .ok (.aload_n 2, 1) := by decide +kernel
theorem d_Lw_law_299 : decode b_Lw_law 299 = .ok (.invokevirtual 72, 3) := by decide +kernel
theorem d_Lw_law_302 : decode b_Lw_law 302 = .ok (.iload 5, 2) := by decide +kernel
theorem d_Lw_law_304 : decode b_Lw_law 304 = .ok (.if_icmp .eq 5, 3) := by decide +kernel
theorem d_Lw_law_307 : decode b_Lw_law 307 = .ok (.iconst 0, 1) := by decide +kernel
theorem d_Lw_law_308 : decode b_Lw_law 308 = .ok (.ireturn, 1) := by decide +kernel
theorem d_Lw_law_309 : decode b_Lw_law 309 = .ok (.iload 5, 2) := by decide +kernel
theorem d_Lw_law_311 : decode b_Lw_law 311 = .ok (.ifCond .ne 15, 3) := by decide +kernel
theorem d_Lw_law_314 : decode b_Lw_law 314 = .ok (.aload_n 3, 1) := by decide +kernel
theorem d_Lw_law_315 : decode b_Lw_law 315 = .ok (.iconst 0, 1) := by decide +kernel
theorem d_Lw_law_316 : decode b_Lw_law 316 = .ok (.laload, 1) := by decide +kernel
theorem d_Lw_law_317 : decode b_Lw_law 317 = .ok (.iload 6, 2) := by decide +kernel
theorem d_Lw_law_319 : decode b_Lw_law 319 = .ok (.i2l, 1) := by decide +kernel
theorem d_Lw_law_320 : decode b_Lw_law 320 = .ok (.lcmp, 1) := by decide +kernel
theorem d_Lw_law_321 : decode b_Lw_law 321 = .ok (.ifCond .eq 5, 3) := by decide +kernel
theorem d_Lw_law_324 : decode b_Lw_law 324 = .ok (.iconst 0, 1) := by decide +kernel
theorem d_Lw_law_325 : decode b_Lw_law 325 = .ok (.ireturn, 1) := by decide +kernel
theorem d_Lw_law_326 : decode b_Lw_law 326 = .ok (.goto 655, 3) := by decide +kernel
theorem d_Lw_law_329 : decode b_Lw_law 329 = .ok (.aload_n 1, 1) := by decide +kernel
theorem d_Lw_law_330 : decode b_Lw_law 330 = .ok (.aload_n 0, 1) := by decide +kernel
theorem d_Lw_law_331 : decode b_Lw_law 331 = .ok (.iload 4, 2) := by decide +kernel
theorem d_Lw_law_333 : decode b_Lw_law 333 = .ok (.iconst 1, 1) := by decide +kernel
theorem d_Lw_law_334 : decode b_Lw_law 334 = .ok (.iadd, 1) := by decide +kernel
theorem d_Lw_law_335 : decode b_Lw_law 335 = .ok (.iaload, 1) := by decide +kernel
theorem d_Lw_law_336 : decode b_Lw_law 336 = .ok (.aload_n 3, 1) := by decide +kernel
theorem d_Lw_law_337 : decode b_Lw_law 337 = .ok (.invokestatic 85, 3) := by decide +kernel
theorem d_Lw_law_340 : decode b_Lw_law 340 = .ok (.istore 5, 2) := by decide +kernel
theorem d_Lw_law_342 : decode b_Lw_law 342 = .ok (.aload_n 2, 1) := by decide +kernel
theorem d_Lw_law_343 : decode b_Lw_law 343 = .ok (.aload_n 0, 1) := by decide +kernel
theorem d_Lw_law_344 : decode b_Lw_law 344 = .ok (.iload 4, 2) := by decide +kernel
theorem d_Lw_law_346 : decode b_Lw_law 346 = .ok (.iconst 1, 1) := by decide +kernel
theorem d_Lw_law_347 : decode b_Lw_law 347 = .ok (.iadd, 1) := by decide +kernel
theorem d_Lw_law_348 : decode b_Lw_law 348 = .ok (.iaload, 1) := by decide +kernel
theorem d_Lw_law_349 : decode b_Lw_law 349 = .ok (.invokevirtual 88, 3) := by decide +kernel
theorem d_Lw_law_352 : decode b_Lw_law 352 = .ok (.istore 6, 2) := by decide +kernel
theorem d_Lw_law_354 : decode b_Lw_law 354 = .ok (.aload_n 2, 1) := by decide +kernel
theorem d_Lw_law_355 : decode b_Lw_law 355 = .ok (.invokevirtual 72, 3) := by decide +kernel
theorem d_Lw_law_358 : decode b_Lw_law 358 = .ok (.iload 5, 2) := by decide +kernel
theorem d_Lw_law_360 : decode b_Lw_law 360 = .ok (.if_icmp .eq 5, 3) := by decide +kernel
theorem d_Lw_law_363 : decode b_Lw_law 363 = .ok (.iconst 0, 1) := by decide +kernel
theorem d_Lw_law_364 : decode b_Lw_law 364 = .ok (.ireturn, 1) := by decide +kernel
theorem d_Lw_law_365 : decode b_Lw_law 365 = .ok (.iload 5, 2) := by decide +kernel
theorem d_Lw_law_367 : decode b_Lw_law 367 = .ok (.ifCond .ne 15, 3) := by decide +kernel
theorem d_Lw_law_370 : decode b_Lw_law 370 = .ok (.aload_n 3, 1) := by decide +kernel
theorem d_Lw_law_371 : decode b_Lw_law 371 = .ok (.iconst 0, 1) := by decide +kernel
theorem d_Lw_law_372 : decode b_Lw_law 372 = .ok (.laload, 1) := by decide +kernel
theorem d_Lw_law_373 : decode b_Lw_law 373 = .ok (.iload 6, 2) := by decide +kernel
theorem d_Lw_law_375 : decode b_Lw_law 375 = .ok (.i2l, 1) := by decide +kernel
theorem d_Lw_law_376 : decode b_Lw_law 376 = .ok (.lcmp, 1) := by decide +kernel
theorem d_Lw_law_377 : decode b_Lw_law 377 = .ok (.ifCond .eq 5, 3) := by decide +kernel
theorem d_Lw_law_380 : decode b_Lw_law 380 = .ok (.iconst 0, 1) := by decide +kernel
theorem d_Lw_law_381 : decode b_Lw_law 381 = .ok (.ireturn, 1) := by decide +kernel
theorem d_Lw_law_382 : decode b_Lw_law 382 = .ok (.goto 599, 3) := by decide +kernel
theorem d_Lw_law_385 : decode b_Lw_law 385 = .ok (.aload_n 1, 1) := by decide +kernel
theorem d_Lw_law_386 : decode b_Lw_law 386 = .ok (.aload_n 0, 1) := by decide +kernel
theorem d_Lw_law_387 : decode b_Lw_law 387 = .ok (.iload 4, 2) := by decide +kernel
theorem d_Lw_law_389 : decode b_Lw_law 389 = .ok (.iconst 1, 1) := by decide +kernel
theorem d_Lw_law_390 : decode b_Lw_law 390 = .ok (.iadd, 1) := by decide +kernel
theorem d_Lw_law_391 : decode b_Lw_law 391 = .ok (.iaload, 1) := by decide +kernel
theorem d_Lw_law_392 : decode b_Lw_law 392 = .ok (.aload_n 3, 1) := by decide +kernel
theorem d_Lw_law_393 : decode b_Lw_law 393 = .ok (.invokestatic 89, 3) := by decide +kernel
theorem d_Lw_law_396 : decode b_Lw_law 396 = .ok (.istore 5, 2) := by decide +kernel
theorem d_Lw_law_398 : decode b_Lw_law 398 = .ok (.aload_n 2, 1) := by decide +kernel
theorem d_Lw_law_399 : decode b_Lw_law 399 = .ok (.aload_n 0, 1) := by decide +kernel
theorem d_Lw_law_400 : decode b_Lw_law 400 = .ok (.iload 4, 2) := by decide +kernel
theorem d_Lw_law_402 : decode b_Lw_law 402 = .ok (.iconst 1, 1) := by decide +kernel
theorem d_Lw_law_403 : decode b_Lw_law 403 = .ok (.iadd, 1) := by decide +kernel
theorem d_Lw_law_404 : decode b_Lw_law 404 = .ok (.iaload, 1) := by decide +kernel
theorem d_Lw_law_405 : decode b_Lw_law 405 = .ok (.invokevirtual 91, 3) := by decide +kernel
theorem d_Lw_law_408 : decode b_Lw_law 408 = .ok (.istore 6, 2) := by decide +kernel
theorem d_Lw_law_410 : decode b_Lw_law 410 = .ok (.aload_n 2, 1) := by decide +kernel
theorem d_Lw_law_411 : decode b_Lw_law 411 = .ok (.invokevirtual 72, 3) := by decide +kernel
theorem d_Lw_law_414 : decode b_Lw_law 414 = .ok (.iload 5, 2) := by decide +kernel
theorem d_Lw_law_416 : decode b_Lw_law 416 = .ok (.if_icmp .eq 5, 3) := by decide +kernel
theorem d_Lw_law_419 : decode b_Lw_law 419 = .ok (.iconst 0, 1) := by decide +kernel
theorem d_Lw_law_420 : decode b_Lw_law 420 = .ok (.ireturn, 1) := by decide +kernel
theorem d_Lw_law_421 : decode b_Lw_law 421 = .ok (.iload 5, 2) := by decide +kernel
theorem d_Lw_law_423 : decode b_Lw_law 423 = .ok (.ifCond .ne 15, 3) := by decide +kernel
theorem d_Lw_law_426 : decode b_Lw_law 426 = .ok (.aload_n 3, 1) := by decide +kernel
theorem d_Lw_law_427 : decode b_Lw_law 427 = .ok (.iconst 0, 1) := by decide +kernel
theorem d_Lw_law_428 : decode b_Lw_law 428 = .ok (.laload, 1) := by decide +kernel
theorem d_Lw_law_429 : decode b_Lw_law 429 = .ok (.iload 6, 2) := by decide +kernel
theorem d_Lw_law_431 : decode b_Lw_law 431 = .ok (.i2l, 1) := by decide +kernel
theorem d_Lw_law_432 : decode b_Lw_law 432 = .ok (.lcmp, 1) := by decide +kernel
theorem d_Lw_law_433 : decode b_Lw_law 433 = .ok (.ifCond .eq 5, 3) := by decide +kernel
theorem d_Lw_law_436 : decode b_Lw_law 436 = .ok (.iconst 0, 1) := by decide +kernel
theorem d_Lw_law_437 : decode b_Lw_law 437 = .ok (.ireturn, 1) := by decide +kernel
theorem d_Lw_law_438 : decode b_Lw_law 438 = .ok (.goto 543, 3) := by decide +kernel
theorem d_Lw_law_441 : decode b_Lw_law 441 = .ok (.aload_n 1, 1) := by decide +kernel
theorem d_Lw_law_442 : decode b_Lw_law 442 = .ok (.aload_n 0, 1) := by decide +kernel
theorem d_Lw_law_443 : decode b_Lw_law 443 = .ok (.iload 4, 2) := by decide +kernel
theorem d_Lw_law_445 : decode b_Lw_law 445 = .ok (.iconst 1, 1) := by decide +kernel
theorem d_Lw_law_446 : decode b_Lw_law 446 = .ok (.iadd, 1) := by decide +kernel
theorem d_Lw_law_447 : decode b_Lw_law 447 = .ok (.iaload, 1) := by decide +kernel
theorem d_Lw_law_448 : decode b_Lw_law 448 = .ok (.aload_n 3, 1) := by decide +kernel
theorem d_Lw_law_449 : decode b_Lw_law 449 = .ok (.invokestatic 92, 3) := by decide +kernel
theorem d_Lw_law_452 : decode b_Lw_law 452 = .ok (.istore 5, 2) := by decide +kernel
theorem d_Lw_law_454 : decode b_Lw_law 454 = .ok (.aload_n 2, 1) := by decide +kernel
theorem d_Lw_law_455 : decode b_Lw_law 455 = .ok (.aload_n 0, 1) := by decide +kernel
theorem d_Lw_law_456 : decode b_Lw_law 456 = .ok (.iload 4, 2) := by decide +kernel
theorem d_Lw_law_458 : decode b_Lw_law 458 = .ok (.iconst 1, 1) := by decide +kernel
theorem d_Lw_law_459 : decode b_Lw_law 459 = .ok (.iadd, 1) := by decide +kernel
theorem d_Lw_law_460 : decode b_Lw_law 460 = .ok (.iaload, 1) := by decide +kernel
theorem d_Lw_law_461 : decode b_Lw_law 461 = .ok (.invokevirtual 94, 3) := by decide +kernel
theorem d_Lw_law_464 : decode b_Lw_law 464 = .ok (.istore 6, 2) := by decide +kernel
theorem d_Lw_law_466 : decode b_Lw_law 466 = .ok (.aload_n 2, 1) := by decide +kernel
theorem d_Lw_law_467 : decode b_Lw_law 467 = .ok (.invokevirtual 72, 3) := by decide +kernel
theorem d_Lw_law_470 : decode b_Lw_law 470 = .ok (.iload 5, 2) := by decide +kernel
theorem d_Lw_law_472 : decode b_Lw_law 472 = .ok (.if_icmp .eq 5, 3) := by decide +kernel
theorem d_Lw_law_475 : decode b_Lw_law 475 = .ok (.iconst 0, 1) := by decide +kernel
theorem d_Lw_law_476 : decode b_Lw_law 476 = .ok (.ireturn, 1) := by decide +kernel
theorem d_Lw_law_477 : decode b_Lw_law 477 = .ok (.iload 5, 2) := by decide +kernel
theorem d_Lw_law_479 : decode b_Lw_law 479 = .ok (.ifCond .ne 15, 3) := by decide +kernel
theorem d_Lw_law_482 : decode b_Lw_law 482 = .ok (.aload_n 3, 1) := by decide +kernel
theorem d_Lw_law_483 : decode b_Lw_law 483 = .ok (.iconst 0, 1) := by decide +kernel
theorem d_Lw_law_484 : decode b_Lw_law 484 = .ok (.laload, 1) := by decide +kernel
theorem d_Lw_law_485 : decode b_Lw_law 485 = .ok (.iload 6, 2) := by decide +kernel
theorem d_Lw_law_487 : decode b_Lw_law 487 = .ok (.i2l, 1) := by decide +kernel
theorem d_Lw_law_488 : decode b_Lw_law 488 = .ok (.lcmp, 1) := by decide +kernel
theorem d_Lw_law_489 : decode b_Lw_law 489 = .ok (.ifCond .eq 5, 3) := by decide +kernel
theorem d_Lw_law_492 : decode b_Lw_law 492 = .ok (.iconst 0, 1) := by decide +kernel
theorem d_Lw_law_493 : decode b_Lw_law 493 = .ok (.ireturn, 1) := by decide +kernel
theorem d_Lw_law_494 : decode b_Lw_law 494 = .ok (.goto 487, 3) := by decide +kernel
theorem d_Lw_law_497 : decode b_Lw_law 497 = .ok (.aload_n 1, 1) := by decide +kernel
theorem d_Lw_law_498 : decode b_Lw_law 498 = .ok (.aload_n 0, 1) := by decide +kernel
theorem d_Lw_law_499 : decode b_Lw_law 499 = .ok (.iload 4, 2) := by decide +kernel
theorem d_Lw_law_501 : decode b_Lw_law 501 = .ok (.iconst 1, 1) := by decide +kernel
theorem d_Lw_law_502 : decode b_Lw_law 502 = .ok (.iadd, 1) := by decide +kernel
theorem d_Lw_law_503 : decode b_Lw_law 503 = .ok (.iaload, 1) := by decide +kernel
theorem d_Lw_law_504 : decode b_Lw_law 504 = .ok (.aload_n 3, 1) := by decide +kernel
theorem d_Lw_law_505 : decode b_Lw_law 505 = .ok (.invokestatic 95, 3) := by decide +kernel
theorem d_Lw_law_508 : decode b_Lw_law 508 = .ok (.istore 5, 2) := by decide +kernel
theorem d_Lw_law_510 : decode b_Lw_law 510 = .ok (.aload_n 2, 1) := by decide +kernel
theorem d_Lw_law_511 : decode b_Lw_law 511 = .ok (.aload_n 0, 1) := by decide +kernel
theorem d_Lw_law_512 : decode b_Lw_law 512 = .ok (.iload 4, 2) := by decide +kernel
theorem d_Lw_law_514 : decode b_Lw_law 514 = .ok (.iconst 1, 1) := by decide +kernel
theorem d_Lw_law_515 : decode b_Lw_law 515 = .ok (.iadd, 1) := by decide +kernel
theorem d_Lw_law_516 : decode b_Lw_law 516 = .ok (.iaload, 1) := by decide +kernel
theorem d_Lw_law_517 : decode b_Lw_law 517 = .ok (.invokevirtual 97, 3) := by decide +kernel
theorem d_Lw_law_520 : decode b_Lw_law 520 = .ok (.istore 6, 2) := by decide +kernel
theorem d_Lw_law_522 : decode b_Lw_law 522 = .ok (.aload_n 2, 1) := by decide +kernel
theorem d_Lw_law_523 : decode b_Lw_law 523 = .ok (.invokevirtual 72, 3) := by decide +kernel
theorem d_Lw_law_526 : decode b_Lw_law 526 = .ok (.iload 5, 2) := by decide +kernel
theorem d_Lw_law_528 : decode b_Lw_law 528 = .ok (.if_icmp .eq 5, 3) := by decide +kernel
theorem d_Lw_law_531 : decode b_Lw_law 531 = .ok (.iconst 0, 1) := by decide +kernel
theorem d_Lw_law_532 : decode b_Lw_law 532 = .ok (.ireturn, 1) := by decide +kernel
theorem d_Lw_law_533 : decode b_Lw_law 533 = .ok (.iload 5, 2) := by decide +kernel
theorem d_Lw_law_535 : decode b_Lw_law 535 = .ok (.ifCond .ne 15, 3) := by decide +kernel
theorem d_Lw_law_538 : decode b_Lw_law 538 = .ok (.aload_n 3, 1) := by decide +kernel
theorem d_Lw_law_539 : decode b_Lw_law 539 = .ok (.iconst 0, 1) := by decide +kernel
theorem d_Lw_law_540 : decode b_Lw_law 540 = .ok (.laload, 1) := by decide +kernel
theorem d_Lw_law_541 : decode b_Lw_law 541 = .ok (.iload 6, 2) := by decide +kernel
theorem d_Lw_law_543 : decode b_Lw_law 543 = .ok (.i2l, 1) := by decide +kernel
theorem d_Lw_law_544 : decode b_Lw_law 544 = .ok (.lcmp, 1) := by decide +kernel
theorem d_Lw_law_545 : decode b_Lw_law 545 = .ok (.ifCond .eq 5, 3) := by decide +kernel
theorem d_Lw_law_548 : decode b_Lw_law 548 = .ok (.iconst 0, 1) := by decide +kernel
theorem d_Lw_law_549 : decode b_Lw_law 549 = .ok (.ireturn, 1) := by decide +kernel
theorem d_Lw_law_550 : decode b_Lw_law 550 = .ok (.goto 431, 3) := by decide +kernel
theorem d_Lw_law_553 : decode b_Lw_law 553 = .ok (.aload_n 1, 1) := by decide +kernel
theorem d_Lw_law_554 : decode b_Lw_law 554 = .ok (.aload_n 0, 1) := by decide +kernel
theorem d_Lw_law_555 : decode b_Lw_law 555 = .ok (.iload 4, 2) := by decide +kernel
theorem d_Lw_law_557 : decode b_Lw_law 557 = .ok (.iconst 1, 1) := by decide +kernel
theorem d_Lw_law_558 : decode b_Lw_law 558 = .ok (.iadd, 1) := by decide +kernel
theorem d_Lw_law_559 : decode b_Lw_law 559 = .ok (.iaload, 1) := by decide +kernel
theorem d_Lw_law_560 : decode b_Lw_law 560 = .ok (.aload_n 3, 1) := by decide +kernel
theorem d_Lw_law_561 : decode b_Lw_law 561 = .ok (.invokestatic 98, 3) := by decide +kernel
theorem d_Lw_law_564 : decode b_Lw_law 564 = .ok (.istore 5, 2) := by decide +kernel
theorem d_Lw_law_566 : decode b_Lw_law 566 = .ok (.aload_n 2, 1) := by decide +kernel
theorem d_Lw_law_567 : decode b_Lw_law 567 = .ok (.aload_n 0, 1) := by decide +kernel
theorem d_Lw_law_568 : decode b_Lw_law 568 = .ok (.iload 4, 2) := by decide +kernel
theorem d_Lw_law_570 : decode b_Lw_law 570 = .ok (.iconst 1, 1) := by decide +kernel
theorem d_Lw_law_571 : decode b_Lw_law 571 = .ok (.iadd, 1) := by decide +kernel
theorem d_Lw_law_572 : decode b_Lw_law 572 = .ok (.iaload, 1) := by decide +kernel
theorem d_Lw_law_573 : decode b_Lw_law 573 = .ok (.invokevirtual 100, 3) := by decide +kernel
theorem d_Lw_law_576 : decode b_Lw_law 576 = .ok (.istore 6, 2) := by decide +kernel
theorem d_Lw_law_578 : decode b_Lw_law 578 = .ok (.aload_n 2, 1) := by decide +kernel
theorem d_Lw_law_579 : decode b_Lw_law 579 = .ok (.invokevirtual 72, 3) := by decide +kernel
theorem d_Lw_law_582 : decode b_Lw_law 582 = .ok (.iload 5, 2) := by decide +kernel
theorem d_Lw_law_584 : decode b_Lw_law 584 = .ok (.if_icmp .eq 5, 3) := by decide +kernel
theorem d_Lw_law_587 : decode b_Lw_law 587 = .ok (.iconst 0, 1) := by decide +kernel
theorem d_Lw_law_588 : decode b_Lw_law 588 = .ok (.ireturn, 1) := by decide +kernel
theorem d_Lw_law_589 : decode b_Lw_law 589 = .ok (.iload 5, 2) := by decide +kernel
theorem d_Lw_law_591 : decode b_Lw_law 591 = .ok (.ifCond .ne 15, 3) := by decide +kernel
theorem d_Lw_law_594 : decode b_Lw_law 594 = .ok (.aload_n 3, 1) := by decide +kernel
theorem d_Lw_law_595 : decode b_Lw_law 595 = .ok (.iconst 0, 1) := by decide +kernel
theorem d_Lw_law_596 : decode b_Lw_law 596 = .ok (.laload, 1) := by decide +kernel
theorem d_Lw_law_597 : decode b_Lw_law 597 = .ok (.iload 6, 2) := by decide +kernel
theorem d_Lw_law_599 : decode b_Lw_law 599 = .ok (.i2l, 1) := by decide +kernel
theorem d_Lw_law_600 : decode b_Lw_law 600 = .ok (.lcmp, 1) := by decide +kernel
theorem d_Lw_law_601 : decode b_Lw_law 601 = .ok (.ifCond .eq 5, 3) := by decide +kernel
theorem d_Lw_law_604 : decode b_Lw_law 604 = .ok (.iconst 0, 1) := by decide +kernel
theorem d_Lw_law_605 : decode b_Lw_law 605 = .ok (.ireturn, 1) := by decide +kernel
theorem d_Lw_law_606 : decode b_Lw_law 606 = .ok (.goto 375, 3) := by decide +kernel
theorem d_Lw_law_609 : decode b_Lw_law 609 = .ok (.aload_n 1, 1) := by decide +kernel
theorem d_Lw_law_610 : decode b_Lw_law 610 = .ok (.aload_n 0, 1) := by decide +kernel
theorem d_Lw_law_611 : decode b_Lw_law 611 = .ok (.iload 4, 2) := by decide +kernel
theorem d_Lw_law_613 : decode b_Lw_law 613 = .ok (.iconst 1, 1) := by decide +kernel
theorem d_Lw_law_614 : decode b_Lw_law 614 = .ok (.iadd, 1) := by decide +kernel
theorem d_Lw_law_615 : decode b_Lw_law 615 = .ok (.iaload, 1) := by decide +kernel
theorem d_Lw_law_616 : decode b_Lw_law 616 = .ok (.aload_n 0, 1) := by decide +kernel
theorem d_Lw_law_617 : decode b_Lw_law 617 = .ok (.iload 4, 2) := by decide +kernel
theorem d_Lw_law_619 : decode b_Lw_law 619 = .ok (.iconst 2, 1) := by decide +kernel
theorem d_Lw_law_620 : decode b_Lw_law 620 = .ok (.iadd, 1) := by decide +kernel
theorem d_Lw_law_621 : decode b_Lw_law 621 = .ok (.iaload, 1) := by decide +kernel
theorem d_Lw_law_622 : decode b_Lw_law 622 = .ok (.aload_n 3, 1) := by decide +kernel
theorem d_Lw_law_623 : decode b_Lw_law 623 = .ok (.invokestatic 101, 3) := by decide +kernel
theorem d_Lw_law_626 : decode b_Lw_law 626 = .ok (.istore 5, 2) := by decide +kernel
theorem d_Lw_law_628 : decode b_Lw_law 628 = .ok (.aload_n 2, 1) := by decide +kernel
theorem d_Lw_law_629 : decode b_Lw_law 629 = .ok (.aload_n 0, 1) := by decide +kernel
theorem d_Lw_law_630 : decode b_Lw_law 630 = .ok (.iload 4, 2) := by decide +kernel
theorem d_Lw_law_632 : decode b_Lw_law 632 = .ok (.iconst 1, 1) := by decide +kernel
theorem d_Lw_law_633 : decode b_Lw_law 633 = .ok (.iadd, 1) := by decide +kernel
theorem d_Lw_law_634 : decode b_Lw_law 634 = .ok (.iaload, 1) := by decide +kernel
theorem d_Lw_law_635 : decode b_Lw_law 635 = .ok (.aload_n 0, 1) := by decide +kernel
theorem d_Lw_law_636 : decode b_Lw_law 636 = .ok (.iload 4, 2) := by decide +kernel
theorem d_Lw_law_638 : decode b_Lw_law 638 = .ok (.iconst 2, 1) := by decide +kernel
theorem d_Lw_law_639 : decode b_Lw_law 639 = .ok (.iadd, 1) := by decide +kernel
theorem d_Lw_law_640 : decode b_Lw_law 640 = .ok (.iaload, 1) := by decide +kernel
theorem d_Lw_law_641 : decode b_Lw_law 641 = .ok (.invokevirtual 104, 3) := by decide +kernel
theorem d_Lw_law_644 : decode b_Lw_law 644 = .ok (.istore 6, 2) := by decide +kernel
theorem d_Lw_law_646 : decode b_Lw_law 646 = .ok (.aload_n 2, 1) := by decide +kernel
theorem d_Lw_law_647 : decode b_Lw_law 647 = .ok (.invokevirtual 72, 3) := by decide +kernel
theorem d_Lw_law_650 : decode b_Lw_law 650 = .ok (.iload 5, 2) := by decide +kernel
theorem d_Lw_law_652 : decode b_Lw_law 652 = .ok (.if_icmp .eq 5, 3) := by decide +kernel
theorem d_Lw_law_655 : decode b_Lw_law 655 = .ok (.iconst 0, 1) := by decide +kernel
theorem d_Lw_law_656 : decode b_Lw_law 656 = .ok (.ireturn, 1) := by decide +kernel
theorem d_Lw_law_657 : decode b_Lw_law 657 = .ok (.iload 5, 2) := by decide +kernel
theorem d_Lw_law_659 : decode b_Lw_law 659 = .ok (.ifCond .ne 15, 3) := by decide +kernel
theorem d_Lw_law_662 : decode b_Lw_law 662 = .ok (.aload_n 3, 1) := by decide +kernel
theorem d_Lw_law_663 : decode b_Lw_law 663 = .ok (.iconst 0, 1) := by decide +kernel
theorem d_Lw_law_664 : decode b_Lw_law 664 = .ok (.laload, 1) := by decide +kernel
theorem d_Lw_law_665 : decode b_Lw_law 665 = .ok (.iload 6, 2) := by decide +kernel
theorem d_Lw_law_667 : decode b_Lw_law 667 = .ok (.i2l, 1) := by decide +kernel
theorem d_Lw_law_668 : decode b_Lw_law 668 = .ok (.lcmp, 1) := by decide +kernel
theorem d_Lw_law_669 : decode b_Lw_law 669 = .ok (.ifCond .eq 5, 3) := by decide +kernel
theorem d_Lw_law_672 : decode b_Lw_law 672 = .ok (.iconst 0, 1) := by decide +kernel
theorem d_Lw_law_673 : decode b_Lw_law 673 = .ok (.ireturn, 1) := by decide +kernel
theorem d_Lw_law_674 : decode b_Lw_law 674 = .ok (.goto 307, 3) := by decide +kernel
theorem d_Lw_law_677 : decode b_Lw_law 677 = .ok (.aload_n 1, 1) := by decide +kernel
theorem d_Lw_law_678 : decode b_Lw_law 678 = .ok (.aload_n 0, 1) := by decide +kernel
theorem d_Lw_law_679 : decode b_Lw_law 679 = .ok (.iload 4, 2) := by decide +kernel
theorem d_Lw_law_681 : decode b_Lw_law 681 = .ok (.iconst 1, 1) := by decide +kernel
theorem d_Lw_law_682 : decode b_Lw_law 682 = .ok (.iadd, 1) := by decide +kernel
theorem d_Lw_law_683 : decode b_Lw_law 683 = .ok (.iaload, 1) := by decide +kernel
theorem d_Lw_law_684 : decode b_Lw_law 684 = .ok (.aload_n 0, 1) := by decide +kernel
theorem d_Lw_law_685 : decode b_Lw_law 685 = .ok (.iload 4, 2) := by decide +kernel
theorem d_Lw_law_687 : decode b_Lw_law 687 = .ok (.iconst 2, 1) := by decide +kernel
theorem d_Lw_law_688 : decode b_Lw_law 688 = .ok (.iadd, 1) := by decide +kernel
theorem d_Lw_law_689 : decode b_Lw_law 689 = .ok (.iaload, 1) := by decide +kernel
theorem d_Lw_law_690 : decode b_Lw_law 690 = .ok (.aload_n 3, 1) := by decide +kernel
theorem d_Lw_law_691 : decode b_Lw_law 691 = .ok (.invokestatic 105, 3) := by decide +kernel
theorem d_Lw_law_694 : decode b_Lw_law 694 = .ok (.istore 5, 2) := by decide +kernel
theorem d_Lw_law_696 : decode b_Lw_law 696 = .ok (.aload_n 2, 1) := by decide +kernel
theorem d_Lw_law_697 : decode b_Lw_law 697 = .ok (.aload_n 0, 1) := by decide +kernel
theorem d_Lw_law_698 : decode b_Lw_law 698 = .ok (.iload 4, 2) := by decide +kernel
theorem d_Lw_law_700 : decode b_Lw_law 700 = .ok (.iconst 1, 1) := by decide +kernel
theorem d_Lw_law_701 : decode b_Lw_law 701 = .ok (.iadd, 1) := by decide +kernel
theorem d_Lw_law_702 : decode b_Lw_law 702 = .ok (.iaload, 1) := by decide +kernel
theorem d_Lw_law_703 : decode b_Lw_law 703 = .ok (.aload_n 0, 1) := by decide +kernel
theorem d_Lw_law_704 : decode b_Lw_law 704 = .ok (.iload 4, 2) := by decide +kernel
theorem d_Lw_law_706 : decode b_Lw_law 706 = .ok (.iconst 2, 1) := by decide +kernel
theorem d_Lw_law_707 : decode b_Lw_law 707 = .ok (.iadd, 1) := by decide +kernel
theorem d_Lw_law_708 : decode b_Lw_law 708 = .ok (.iaload, 1) := by decide +kernel
theorem d_Lw_law_709 : decode b_Lw_law 709 = .ok (.invokevirtual 107, 3) := by decide +kernel
theorem d_Lw_law_712 : decode b_Lw_law 712 = .ok (.istore 6, 2) := by decide +kernel
theorem d_Lw_law_714 : decode b_Lw_law 714 = .ok (.aload_n 2, 1) := by decide +kernel
theorem d_Lw_law_715 : decode b_Lw_law 715 = .ok (.invokevirtual 72, 3) := by decide +kernel
theorem d_Lw_law_718 : decode b_Lw_law 718 = .ok (.iload 5, 2) := by decide +kernel
theorem d_Lw_law_720 : decode b_Lw_law 720 = .ok (.if_icmp .eq 5, 3) := by decide +kernel
theorem d_Lw_law_723 : decode b_Lw_law 723 = .ok (.iconst 0, 1) := by decide +kernel
theorem d_Lw_law_724 : decode b_Lw_law 724 = .ok (.ireturn, 1) := by decide +kernel
theorem d_Lw_law_725 : decode b_Lw_law 725 = .ok (.iload 5, 2) := by decide +kernel
theorem d_Lw_law_727 : decode b_Lw_law 727 = .ok (.ifCond .ne 15, 3) := by decide +kernel
theorem d_Lw_law_730 : decode b_Lw_law 730 = .ok (.aload_n 3, 1) := by decide +kernel
theorem d_Lw_law_731 : decode b_Lw_law 731 = .ok (.iconst 0, 1) := by decide +kernel
theorem d_Lw_law_732 : decode b_Lw_law 732 = .ok (.laload, 1) := by decide +kernel
theorem d_Lw_law_733 : decode b_Lw_law 733 = .ok (.iload 6, 2) := by decide +kernel
theorem d_Lw_law_735 : decode b_Lw_law 735 = .ok (.i2l, 1) := by decide +kernel
theorem d_Lw_law_736 : decode b_Lw_law 736 = .ok (.lcmp, 1) := by decide +kernel
theorem d_Lw_law_737 : decode b_Lw_law 737 = .ok (.ifCond .eq 5, 3) := by decide +kernel
theorem d_Lw_law_740 : decode b_Lw_law 740 = .ok (.iconst 0, 1) := by decide +kernel
theorem d_Lw_law_741 : decode b_Lw_law 741 = .ok (.ireturn, 1) := by decide +kernel
theorem d_Lw_law_742 : decode b_Lw_law 742 = .ok (.goto 239, 3) := by decide +kernel
theorem d_Lw_law_745 : decode b_Lw_law 745 = .ok (.aload_n 1, 1) := by decide +kernel
theorem d_Lw_law_746 : decode b_Lw_law 746 = .ok (.aload_n 0, 1) := by decide +kernel
theorem d_Lw_law_747 : decode b_Lw_law 747 = .ok (.iload 4, 2) := by decide +kernel
theorem d_Lw_law_749 : decode b_Lw_law 749 = .ok (.iconst 1, 1) := by decide +kernel
theorem d_Lw_law_750 : decode b_Lw_law 750 = .ok (.iadd, 1) := by decide +kernel
theorem d_Lw_law_751 : decode b_Lw_law 751 = .ok (.iaload, 1) := by decide +kernel
theorem d_Lw_law_752 : decode b_Lw_law 752 = .ok (.aload_n 0, 1) := by decide +kernel
theorem d_Lw_law_753 : decode b_Lw_law 753 = .ok (.iload 4, 2) := by decide +kernel
theorem d_Lw_law_755 : decode b_Lw_law 755 = .ok (.iconst 2, 1) := by decide +kernel
theorem d_Lw_law_756 : decode b_Lw_law 756 = .ok (.iadd, 1) := by decide +kernel
theorem d_Lw_law_757 : decode b_Lw_law 757 = .ok (.iaload, 1) := by decide +kernel
theorem d_Lw_law_758 : decode b_Lw_law 758 = .ok (.aload_n 3, 1) := by decide +kernel
theorem d_Lw_law_759 : decode b_Lw_law 759 = .ok (.invokestatic 108, 3) := by decide +kernel
theorem d_Lw_law_762 : decode b_Lw_law 762 = .ok (.istore 5, 2) := by decide +kernel
theorem d_Lw_law_764 : decode b_Lw_law 764 = .ok (.aload_n 2, 1) := by decide +kernel
theorem d_Lw_law_765 : decode b_Lw_law 765 = .ok (.aload_n 0, 1) := by decide +kernel
theorem d_Lw_law_766 : decode b_Lw_law 766 = .ok (.iload 4, 2) := by decide +kernel
theorem d_Lw_law_768 : decode b_Lw_law 768 = .ok (.iconst 1, 1) := by decide +kernel
theorem d_Lw_law_769 : decode b_Lw_law 769 = .ok (.iadd, 1) := by decide +kernel
theorem d_Lw_law_770 : decode b_Lw_law 770 = .ok (.iaload, 1) := by decide +kernel
theorem d_Lw_law_771 : decode b_Lw_law 771 = .ok (.aload_n 0, 1) := by decide +kernel
theorem d_Lw_law_772 : decode b_Lw_law 772 = .ok (.iload 4, 2) := by decide +kernel
theorem d_Lw_law_774 : decode b_Lw_law 774 = .ok (.iconst 2, 1) := by decide +kernel
theorem d_Lw_law_775 : decode b_Lw_law 775 = .ok (.iadd, 1) := by decide +kernel
theorem d_Lw_law_776 : decode b_Lw_law 776 = .ok (.iaload, 1) := by decide +kernel
theorem d_Lw_law_777 : decode b_Lw_law 777 = .ok (.invokevirtual 110, 3) := by decide +kernel
theorem d_Lw_law_780 : decode b_Lw_law 780 = .ok (.istore 6, 2) := by decide +kernel
theorem d_Lw_law_782 : decode b_Lw_law 782 = .ok (.aload_n 2, 1) := by decide +kernel
theorem d_Lw_law_783 : decode b_Lw_law 783 = .ok (.invokevirtual 72, 3) := by decide +kernel
theorem d_Lw_law_786 : decode b_Lw_law 786 = .ok (.iload 5, 2) := by decide +kernel
theorem d_Lw_law_788 : decode b_Lw_law 788 = .ok (.if_icmp .eq 5, 3) := by decide +kernel
theorem d_Lw_law_791 : decode b_Lw_law 791 = .ok (.iconst 0, 1) := by decide +kernel
theorem d_Lw_law_792 : decode b_Lw_law 792 = .ok (.ireturn, 1) := by decide +kernel
theorem d_Lw_law_793 : decode b_Lw_law 793 = .ok (.iload 5, 2) := by decide +kernel
theorem d_Lw_law_795 : decode b_Lw_law 795 = .ok (.ifCond .ne 15, 3) := by decide +kernel
theorem d_Lw_law_798 : decode b_Lw_law 798 = .ok (.aload_n 3, 1) := by decide +kernel
theorem d_Lw_law_799 : decode b_Lw_law 799 = .ok (.iconst 0, 1) := by decide +kernel
theorem d_Lw_law_800 : decode b_Lw_law 800 = .ok (.laload, 1) := by decide +kernel
theorem d_Lw_law_801 : decode b_Lw_law 801 = .ok (.iload 6, 2) := by decide +kernel
theorem d_Lw_law_803 : decode b_Lw_law 803 = .ok (.i2l, 1) := by decide +kernel
theorem d_Lw_law_804 : decode b_Lw_law 804 = .ok (.lcmp, 1) := by decide +kernel
theorem d_Lw_law_805 : decode b_Lw_law 805 = .ok (.ifCond .eq 5, 3) := by decide +kernel
theorem d_Lw_law_808 : decode b_Lw_law 808 = .ok (.iconst 0, 1) := by decide +kernel
theorem d_Lw_law_809 : decode b_Lw_law 809 = .ok (.ireturn, 1) := by decide +kernel
theorem d_Lw_law_810 : decode b_Lw_law 810 = .ok (.goto 171, 3) := by decide +kernel
theorem d_Lw_law_813 : decode b_Lw_law 813 = .ok (.aload_n 1, 1) := by decide +kernel
theorem d_Lw_law_814 : decode b_Lw_law 814 = .ok (.aload_n 0, 1) := by decide +kernel
theorem d_Lw_law_815 : decode b_Lw_law 815 = .ok (.iload 4, 2) := by decide +kernel
theorem d_Lw_law_817 : decode b_Lw_law 817 = .ok (.iconst 1, 1) := by decide +kernel
theorem d_Lw_law_818 : decode b_Lw_law 818 = .ok (.iadd, 1) := by decide +kernel
theorem d_Lw_law_819 : decode b_Lw_law 819 = .ok (.iaload, 1) := by decide +kernel
theorem d_Lw_law_820 : decode b_Lw_law 820 = .ok (.aload_n 3, 1) := by decide +kernel
theorem d_Lw_law_821 : decode b_Lw_law 821 = .ok (.invokestatic 111, 3) := by decide +kernel
theorem d_Lw_law_824 : decode b_Lw_law 824 = .ok (.istore 5, 2) := by decide +kernel
theorem d_Lw_law_826 : decode b_Lw_law 826 = .ok (.aload_n 2, 1) := by decide +kernel
theorem d_Lw_law_827 : decode b_Lw_law 827 = .ok (.aload_n 0, 1) := by decide +kernel
theorem d_Lw_law_828 : decode b_Lw_law 828 = .ok (.iload 4, 2) := by decide +kernel
theorem d_Lw_law_830 : decode b_Lw_law 830 = .ok (.iconst 1, 1) := by decide +kernel
theorem d_Lw_law_831 : decode b_Lw_law 831 = .ok (.iadd, 1) := by decide +kernel
theorem d_Lw_law_832 : decode b_Lw_law 832 = .ok (.iaload, 1) := by decide +kernel
theorem d_Lw_law_833 : decode b_Lw_law 833 = .ok (.invokevirtual 113, 3) := by decide +kernel
theorem d_Lw_law_836 : decode b_Lw_law 836 = .ok (.istore 6, 2) := by decide +kernel
theorem d_Lw_law_838 : decode b_Lw_law 838 = .ok (.aload_n 2, 1) := by decide +kernel
theorem d_Lw_law_839 : decode b_Lw_law 839 = .ok (.invokevirtual 72, 3) := by decide +kernel
theorem d_Lw_law_842 : decode b_Lw_law 842 = .ok (.iload 5, 2) := by decide +kernel
theorem d_Lw_law_844 : decode b_Lw_law 844 = .ok (.if_icmp .eq 5, 3) := by decide +kernel
theorem d_Lw_law_847 : decode b_Lw_law 847 = .ok (.iconst 0, 1) := by decide +kernel
theorem d_Lw_law_848 : decode b_Lw_law 848 = .ok (.ireturn, 1) := by decide +kernel
theorem d_Lw_law_849 : decode b_Lw_law 849 = .ok (.iload 5, 2) := by decide +kernel
theorem d_Lw_law_851 : decode b_Lw_law 851 = .ok (.ifCond .ne 15, 3) := by decide +kernel
theorem d_Lw_law_854 : decode b_Lw_law 854 = .ok (.aload_n 3, 1) := by decide +kernel
theorem d_Lw_law_855 : decode b_Lw_law 855 = .ok (.iconst 0, 1) := by decide +kernel
theorem d_Lw_law_856 : decode b_Lw_law 856 = .ok (.laload, 1) := by decide +kernel
theorem d_Lw_law_857 : decode b_Lw_law 857 = .ok (.iload 6, 2) := by decide +kernel
theorem d_Lw_law_859 : decode b_Lw_law 859 = .ok (.i2l, 1) := by decide +kernel
theorem d_Lw_law_860 : decode b_Lw_law 860 = .ok (.lcmp, 1) := by decide +kernel
theorem d_Lw_law_861 : decode b_Lw_law 861 = .ok (.ifCond .eq 5, 3) := by decide +kernel
theorem d_Lw_law_864 : decode b_Lw_law 864 = .ok (.iconst 0, 1) := by decide +kernel
theorem d_Lw_law_865 : decode b_Lw_law 865 = .ok (.ireturn, 1) := by decide +kernel
theorem d_Lw_law_866 : decode b_Lw_law 866 = .ok (.goto 115, 3) := by decide +kernel
theorem d_Lw_law_869 : decode b_Lw_law 869 = .ok (.aload_n 1, 1) := by decide +kernel
theorem d_Lw_law_870 : decode b_Lw_law 870 = .ok (.aload_n 0, 1) := by decide +kernel
theorem d_Lw_law_871 : decode b_Lw_law 871 = .ok (.iload 4, 2) := by decide +kernel
theorem d_Lw_law_873 : decode b_Lw_law 873 = .ok (.iconst 1, 1) := by decide +kernel
theorem d_Lw_law_874 : decode b_Lw_law 874 = .ok (.iadd, 1) := by decide +kernel
theorem d_Lw_law_875 : decode b_Lw_law 875 = .ok (.iaload, 1) := by decide +kernel
theorem d_Lw_law_876 : decode b_Lw_law 876 = .ok (.aload_n 3, 1) := by decide +kernel
theorem d_Lw_law_877 : decode b_Lw_law 877 = .ok (.invokestatic 114, 3) := by decide +kernel
theorem d_Lw_law_880 : decode b_Lw_law 880 = .ok (.istore 5, 2) := by decide +kernel
theorem d_Lw_law_882 : decode b_Lw_law 882 = .ok (.aload_n 2, 1) := by decide +kernel
theorem d_Lw_law_883 : decode b_Lw_law 883 = .ok (.aload_n 0, 1) := by decide +kernel
theorem d_Lw_law_884 : decode b_Lw_law 884 = .ok (.iload 4, 2) := by decide +kernel
theorem d_Lw_law_886 : decode b_Lw_law 886 = .ok (.iconst 1, 1) := by decide +kernel
theorem d_Lw_law_887 : decode b_Lw_law 887 = .ok (.iadd, 1) := by decide +kernel
theorem d_Lw_law_888 : decode b_Lw_law 888 = .ok (.iaload, 1) := by decide +kernel
theorem d_Lw_law_889 : decode b_Lw_law 889 = .ok (.invokevirtual 116, 3) := by decide +kernel
theorem d_Lw_law_892 : decode b_Lw_law 892 = .ok (.istore 6, 2) := by decide +kernel
theorem d_Lw_law_894 : decode b_Lw_law 894 = .ok (.aload_n 2, 1) := by decide +kernel
theorem d_Lw_law_895 : decode b_Lw_law 895 = .ok (.invokevirtual 72, 3) := by decide +kernel
theorem d_Lw_law_898 : decode b_Lw_law 898 = .ok (.iload 5, 2) := by decide +kernel
theorem d_Lw_law_900 : decode b_Lw_law 900 = .ok (.if_icmp .eq 5, 3) := by decide +kernel
theorem d_Lw_law_903 : decode b_Lw_law 903 = .ok (.iconst 0, 1) := by decide +kernel
theorem d_Lw_law_904 : decode b_Lw_law 904 = .ok (.ireturn, 1) := by decide +kernel
theorem d_Lw_law_905 : decode b_Lw_law 905 = .ok (.iload 5, 2) := by decide +kernel
theorem d_Lw_law_907 : decode b_Lw_law 907 = .ok (.ifCond .ne 15, 3) := by decide +kernel
theorem d_Lw_law_910 : decode b_Lw_law 910 = .ok (.aload_n 3, 1) := by decide +kernel
theorem d_Lw_law_911 : decode b_Lw_law 911 = .ok (.iconst 0, 1) := by decide +kernel
theorem d_Lw_law_912 : decode b_Lw_law 912 = .ok (.laload, 1) := by decide +kernel
theorem d_Lw_law_913 : decode b_Lw_law 913 = .ok (.iload 6, 2) := by decide +kernel
theorem d_Lw_law_915 : decode b_Lw_law 915 = .ok (.i2l, 1) := by decide +kernel
theorem d_Lw_law_916 : decode b_Lw_law 916 = .ok (.lcmp, 1) := by decide +kernel
theorem d_Lw_law_917 : decode b_Lw_law 917 = .ok (.ifCond .eq 5, 3) := by decide +kernel
theorem d_Lw_law_920 : decode b_Lw_law 920 = .ok (.iconst 0, 1) := by decide +kernel
theorem d_Lw_law_921 : decode b_Lw_law 921 = .ok (.ireturn, 1) := by decide +kernel
theorem d_Lw_law_922 : decode b_Lw_law 922 = .ok (.goto 59, 3) := by decide +kernel
theorem d_Lw_law_925 : decode b_Lw_law 925 = .ok (.aload_n 1, 1) := by decide +kernel
theorem d_Lw_law_926 : decode b_Lw_law 926 = .ok (.aload_n 0, 1) := by decide +kernel
theorem d_Lw_law_927 : decode b_Lw_law 927 = .ok (.iload 4, 2) := by decide +kernel
theorem d_Lw_law_929 : decode b_Lw_law 929 = .ok (.iconst 1, 1) := by decide +kernel
theorem d_Lw_law_930 : decode b_Lw_law 930 = .ok (.iadd, 1) := by decide +kernel
theorem d_Lw_law_931 : decode b_Lw_law 931 = .ok (.iaload, 1) := by decide +kernel
theorem d_Lw_law_932 : decode b_Lw_law 932 = .ok (.aload_n 3, 1) := by decide +kernel
theorem d_Lw_law_933 : decode b_Lw_law 933 = .ok (.invokestatic 117, 3) := by decide +kernel
theorem d_Lw_law_936 : decode b_Lw_law 936 = .ok (.istore 5, 2) := by decide +kernel
theorem d_Lw_law_938 : decode b_Lw_law 938 = .ok (.aload_n 2, 1) := by decide +kernel
theorem d_Lw_law_939 : decode b_Lw_law 939 = .ok (.aload_n 0, 1) := by decide +kernel
theorem d_Lw_law_940 : decode b_Lw_law 940 = .ok (.iload 4, 2) := by decide +kernel
theorem d_Lw_law_942 : decode b_Lw_law 942 = .ok (.iconst 1, 1) := by decide +kernel
theorem d_Lw_law_943 : decode b_Lw_law 943 = .ok (.iadd, 1) := by decide +kernel
theorem d_Lw_law_944 : decode b_Lw_law 944 = .ok (.iaload, 1) := by decide +kernel
theorem d_Lw_law_945 : decode b_Lw_law 945 = .ok (.invokevirtual 119, 3) := by decide +kernel
theorem d_Lw_law_948 : decode b_Lw_law 948 = .ok (.istore 6, 2) := by decide +kernel
theorem d_Lw_law_950 : decode b_Lw_law 950 = .ok (.aload_n 2, 1) := by decide +kernel
theorem d_Lw_law_951 : decode b_Lw_law 951 = .ok (.invokevirtual 72, 3) := by decide +kernel
theorem d_Lw_law_954 : decode b_Lw_law 954 = .ok (.iload 5, 2) := by decide +kernel
theorem d_Lw_law_956 : decode b_Lw_law 956 = .ok (.if_icmp .eq 5, 3) := by decide +kernel
theorem d_Lw_law_959 : decode b_Lw_law 959 = .ok (.iconst 0, 1) := by decide +kernel
theorem d_Lw_law_960 : decode b_Lw_law 960 = .ok (.ireturn, 1) := by decide +kernel
theorem d_Lw_law_961 : decode b_Lw_law 961 = .ok (.iload 5, 2) := by decide +kernel
theorem d_Lw_law_963 : decode b_Lw_law 963 = .ok (.ifCond .ne 15, 3) := by decide +kernel
theorem d_Lw_law_966 : decode b_Lw_law 966 = .ok (.aload_n 3, 1) := by decide +kernel
theorem d_Lw_law_967 : decode b_Lw_law 967 = .ok (.iconst 0, 1) := by decide +kernel
theorem d_Lw_law_968 : decode b_Lw_law 968 = .ok (.laload, 1) := by decide +kernel
theorem d_Lw_law_969 : decode b_Lw_law 969 = .ok (.iload 6, 2) := by decide +kernel
theorem d_Lw_law_971 : decode b_Lw_law 971 = .ok (.i2l, 1) := by decide +kernel
theorem d_Lw_law_972 : decode b_Lw_law 972 = .ok (.lcmp, 1) := by decide +kernel
theorem d_Lw_law_973 : decode b_Lw_law 973 = .ok (.ifCond .eq 5, 3) := by decide +kernel
theorem d_Lw_law_976 : decode b_Lw_law 976 = .ok (.iconst 0, 1) := by decide +kernel
theorem d_Lw_law_977 : decode b_Lw_law 977 = .ok (.ireturn, 1) := by decide +kernel
theorem d_Lw_law_978 : decode b_Lw_law 978 = .ok (.goto 3, 3) := by decide +kernel
theorem d_Lw_law_981 : decode b_Lw_law 981 = .ok (.iinc 4 6, 3) := by decide +kernel
theorem d_Lw_law_984 : decode b_Lw_law 984 = .ok (.goto (-961), 3) := by decide +kernel
theorem d_Lw_law_987 : decode b_Lw_law 987 = .ok (.iconst 1, 1) := by decide +kernel
theorem d_Lw_law_988 : decode b_Lw_law 988 = .ok (.ireturn, 1) := by decide +kernel
