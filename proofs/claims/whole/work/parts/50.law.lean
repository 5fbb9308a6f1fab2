theorem d_Law_law_0 : decode b_Law_law 0 = .ok (.new 7, 3) := by decide +kernel
theorem d_Law_law_3 : decode b_Law_law 3 = .ok (.dup, 1) := by decide +kernel
theorem d_Law_law_4 : decode b_Law_law 4 = .ok (.invokespecial 9, 3) := by decide +kernel
theorem d_Law_law_7 : decode b_Law_law 7 = .ok (.astore_n 1, 1) := by decide +kernel
theorem d_Law_law_8 : decode b_Law_law 8 = .ok (.new 10, 3) := by decide +kernel
theorem d_Law_law_11 : decode b_Law_law 11 = .ok (.dup, 1) := by decide +kernel
theorem d_Law_law_12 : decode b_Law_law 12 = .ok (.invokespecial 12, 3) := by decide +kernel
theorem d_Law_law_15 : decode b_Law_law 15 = .ok (.astore_n 2, 1) := by decide +kernel
theorem d_Law_law_16 : decode b_Law_law 16 = .ok (.iconst 0, 1) := by decide +kernel
theorem d_Law_law_17 : decode b_Law_law 17 = .ok (.istore_n 3, 1) := by decide +kernel
theorem d_Law_law_18 : decode b_Law_law 18 = .ok (.iload_n 3, 1) := by decide +kernel
theorem d_Law_law_19 : decode b_Law_law 19 = .ok (.aload_n 0, 1) := by decide +kernel
theorem d_Law_law_20 : decode b_Law_law 20 = .ok (.arraylength, 1) := by decide +kernel
theorem d_Law_law_21 : decode b_Law_law 21 = .ok (.bipush 8, 2) := by decide +kernel
theorem d_Law_law_23 : decode b_Law_law 23 = .ok (.isub, 1) := by decide +kernel
theorem d_Law_law_24 : decode b_Law_law 24 = .ok (.if_icmp .gt 929, 3) := by decide +kernel
theorem d_Law_law_27 : decode b_Law_law 27 = .ok (.aload_n 0, 1) := by decide +kernel
theorem d_Law_law_28 : decode b_Law_law 28 = .ok (.iload_n 3, 1) := by decide +kernel
theorem d_Law_law_29 : decode b_Law_law 29 = .ok (.iaload, 1) := by decide +kernel
theorem d_Law_law_30 : decode b_Law_law 30 = .ok (.bipush 31, 2) := by decide +kernel
theorem d_Law_law_32 : decode b_Law_law 32 = .ok (.iand, 1) := by decide +kernel
theorem d_Law_law_33 : decode b_Law_law 33 = .ok (.tableswitch 914 0 17 #[87, 100, 207, 230, 263, 296, 350, 393, 446, 469, 492, 551, 605, 648, 671, 714, 737, 840], 87) := by decide +kernel
theorem d_Law_law_120 : decode b_Law_law 120 = .ok (.aload_n 1, 1) := by decide +kernel
theorem d_Law_law_121 : decode b_Law_law 121 = .ok (.invokevirtual 13, 3) := by decide +kernel
theorem d_Law_law_124 : decode b_Law_law 124 = .ok (.aload_n 2, 1) := by decide +kernel
theorem d_Law_law_125 : decode b_Law_law 125 = .ok (.invokevirtual 17, 3) := by decide +kernel
theorem d_Law_law_128 : decode b_Law_law 128 = .ok (.if_icmp .eq 819, 3) := by decide +kernel
theorem d_Law_law_131 : decode b_Law_law 131 = .ok (.iconst 0, 1) := by decide +kernel
theorem d_Law_law_132 : decode b_Law_law 132 = .ok (.ireturn, 1) := by decide +kernel
theorem d_Law_law_133 : decode b_Law_law 133 = .ok (.aload_n 1, 1) := by decide +kernel
theorem d_Law_law_134 : decode b_Law_law 134 = .ok (.aload_n 0, 1) := by decide +kernel
theorem d_Law_law_135 : decode b_Law_law 135 = .ok (.iload_n 3, 1) := by decide +kernel
theorem d_Law_law_136 : decode b_Law_law 136 = .ok (.iconst 1, 1) := by decide +kernel
theorem d_Law_law_137 : decode b_Law_law 137 = .ok (.iadd, 1) := by decide +kernel
theorem d_Law_law_138 : decode b_Law_law 138 = .ok (.iaload, 1) := by decide +kernel
theorem d_Law_law_139 : decode b_Law_law 139 = .ok (.aload_n 0, 1) := by decide +kernel
theorem d_Law_law_140 : decode b_Law_law 140 = .ok (.iload_n 3, 1) := by decide +kernel
theorem d_Law_law_141 : decode b_Law_law 141 = .ok (.iconst 2, 1) := by decide +kernel
theorem d_Law_law_142 : decode b_Law_law 142 = .ok (.iadd, 1) := by decide +kernel
theorem d_Law_law_143 : decode b_Law_law 143 = .ok (.iaload, 1) := by decide +kernel
theorem d_Law_law_144 : decode b_Law_law 144 = .ok (.aload_n 0, 1) := by decide +kernel
theorem d_Law_law_145 : decode b_Law_law 145 = .ok (.iload_n 3, 1) := by decide +kernel
theorem d_Law_law_146 : decode b_Law_law 146 = .ok (.iconst 3, 1) := by decide +kernel
theorem d_Law_law_147 : decode b_Law_law 147 = .ok (.iadd, 1) := by decide +kernel
theorem d_Law_law_148 : decode b_Law_law 148 = .ok (.iaload, 1) := by decide +kernel
theorem d_Law_law_149 : decode b_Law_law 149 = .ok (.aload_n 0, 1) := by decide +kernel
theorem d_Law_law_150 : decode b_Law_law 150 = .ok (.iload_n 3, 1) := by decide +kernel
theorem d_Law_law_151 : decode b_Law_law 151 = .ok (.iconst 4, 1) := by decide +kernel
theorem d_Law_law_152 : decode b_Law_law 152 = .ok (.iadd, 1) := by decide +kernel
theorem d_Law_law_153 : decode b_Law_law 153 = .ok (.iaload, 1) := by decide +kernel
theorem d_Law_law_154 : decode b_Law_law 154 = .ok (.aload_n 0, 1) := by decide +kernel
theorem d_Law_law_155 : decode b_Law_law 155 = .ok (.iload_n 3, 1) := by decide +kernel
theorem d_Law_law_156 : decode b_Law_law 156 = .ok (.iconst 5, 1) := by decide +kernel
theorem d_Law_law_157 : decode b_Law_law 157 = .ok (.iadd, 1) := by decide +kernel
theorem d_Law_law_158 : decode b_Law_law 158 = .ok (.iaload, 1) := by decide +kernel
theorem d_Law_law_159 : decode b_Law_law 159 = .ok (.i2l, 1) := by decide +kernel
theorem d_Law_law_160 : decode b_Law_law 160 = .ok (.bipush 32, 2) := by decide +kernel
theorem d_Law_law_162 : decode b_Law_law 162 = .ok (.lshl, 1) := by decide +kernel
theorem d_Law_law_163 : decode b_Law_law 163 = .ok (.aload_n 0, 1) := by decide +kernel
theorem d_Law_law_164 : decode b_Law_law 164 = .ok (.iload_n 3, 1) := by decide +kernel
theorem d_Law_law_165 : decode b_Law_law 165 = .ok (.bipush 6, 2) := by decide +kernel
theorem d_Law_law_167 : decode b_Law_law 167 = .ok (.iadd, 1) := by decide +kernel
theorem d_Law_law_168 : decode b_Law_law 168 = .ok (.iaload, 1) := by decide +kernel
theorem d_Law_law_169 : decode b_Law_law 169 = .ok (.i2l, 1) := by decide +kernel
theorem d_Law_law_170 : decode b_Law_law 170 = .ok (.ldc2_w 18, 3) := by decide +kernel
theorem d_Law_law_173 : decode b_Law_law 173 = .ok (.land, 1) := by decide +kernel
theorem d_Law_law_174 : decode b_Law_law 174 = .ok (.lor, 1) := by decide +kernel
theorem d_Law_law_175 : decode b_Law_law 175 = .ok (.aload_n 0, 1) := by decide +kernel
theorem d_Law_law_176 : decode b_Law_law 176 = .ok (.iload_n 3, 1) := by decide +kernel
theorem d_Law_law_177 : decode b_Law_law 177 = .ok (.bipush 7, 2) := by decide +kernel
theorem d_Law_law_179 : decode b_Law_law 179 = .ok (.iadd, 1) := by decide +kernel
theorem d_Law_law_180 : decode b_Law_law 180 = .ok (.iaload, 1) := by decide +kernel
theorem d_Law_law_181 : decode b_Law_law 181 = .ok (.invokevirtual 20, 3) := by decide +kernel
theorem d_Law_law_184 : decode b_Law_law 184 = .ok (.aload_n 2, 1) := by decide +kernel
theorem d_Law_law_185 : decode b_Law_law 185 = .ok (.aload_n 0, 1) := by decide +kernel
theorem d_Law_law_186 : decode b_Law_law 186 = .ok (.iload_n 3, 1) := by decide +kernel
theorem d_Law_law_187 : decode b_Law_law 187 = .ok (.iconst 1, 1) := by decide +kernel
theorem d_Law_law_188 : decode b_Law_law 188 = .ok (.iadd, 1) := by decide +kernel
theorem d_Law_law_189 : decode b_Law_law 189 = .ok (.iaload, 1) := by decide +kernel
theorem d_Law_law_190 : decode b_Law_law 190 = .ok (.aload_n 0, 1) := by decide +kernel
theorem d_Law_law_191 : decode b_Law_law 191 = .ok (.iload_n 3, 1) := by decide +kernel
theorem d_Law_law_192 : decode b_Law_law 192 = .ok (.iconst 2, 1) := by decide +kernel
theorem d_Law_law_193 : decode b_Law_law 193 = .ok (.iadd, 1) := by decide +kernel
theorem d_Law_law_194 : decode b_Law_law 194 = .ok (.iaload, 1) := by decide +kernel
theorem d_Law_law_195 : decode b_Law_law 195 = .ok (.aload_n 0, 1) := by decide +kernel
theorem d_Law_law_196 : decode b_Law_law 196 = .ok (.iload_n 3, 1) := by decide +kernel
theorem d_Law_law_197 : decode b_Law_law 197 = .ok (.iconst 3, 1) := by decide +kernel
theorem d_Law_law_198 : decode b_Law_law 198 = .ok (.iadd, 1) := by decide +kernel
theorem d_Law_law_199 : decode b_Law_law 199 = .ok (.iaload, 1) := by decide +kernel
theorem d_Law_law_200 : decode b_Law_law 200 = .ok (.aload_n 0, 1) := by decide +kernel
theorem d_Law_law_201 : decode b_Law_law 201 = .ok (.iload_n 3, 1) := by decide +kernel
theorem d_Law_law_202 : decode b_Law_law 202 = .ok (.iconst 4, 1) := by decide +kernel
theorem d_Law_law_203 : decode b_Law_law 203 = .ok (.iadd, 1) := by decide +kernel
theorem d_Law_law_204 : decode b_Law_law 204 = .ok (.iaload, 1) := by decide +kernel
theorem d_Law_law_205 : decode b_Law_law 205 = .ok (.aload_n 0, 1) := by decide +kernel
theorem d_Law_law_206 : decode b_Law_law 206 = .ok (.iload_n 3, 1) := by decide +kernel
theorem d_Law_law_207 : decode b_Law_law 207 = .ok (.iconst 5, 1) := by decide +kernel
theorem d_Law_law_208 : decode b_Law_law 208 = .ok (.iadd, 1) := by decide +kernel
theorem d_Law_law_209 : decode b_Law_law 209 = .ok (.iaload, 1) := by decide +kernel
theorem d_Law_law_210 : decode b_Law_law 210 = .ok (.i2l, 1) := by decide +kernel
theorem d_Law_law_211 : decode b_Law_law 211 = .ok (.bipush 32, 2) := by decide +kernel
theorem d_Law_law_213 : decode b_Law_law 213 = .ok (.lshl, 1) := by decide +kernel
theorem d_Law_law_214 : decode b_Law_law 214 = .ok (.aload_n 0, 1) := by decide +kernel
theorem d_Law_law_215 : decode b_Law_law 215 = .ok (.iload_n 3, 1) := by decide +kernel
theorem d_Law_law_216 : decode b_Law_law 216 = .ok (.bipush 6, 2) := by decide +kernel
theorem d_Law_law_218 : decode b_Law_law 218 = .ok (.iadd, 1) := by decide +kernel
theorem d_Law_law_219 : decode b_Law_law 219 = .ok (.iaload, 1) := by decide +kernel
theorem d_Law_law_220 : decode b_Law_law 220 = .ok (.i2l, 1) := by decide +kernel
theorem d_Law_law_221 : decode b_Law_law 221 = .ok (.ldc2_w 18, 3) := by decide +kernel
theorem d_Law_law_224 : decode b_Law_law 224 = .ok (.land, 1) := by decide +kernel
theorem d_Law_law_225 : decode b_Law_law 225 = .ok (.lor, 1) := by decide +kernel
theorem d_Law_law_226 : decode b_Law_law 226 = .ok (.aload_n 0, 1) := by decide +kernel
theorem d_Law_law_227 : decode b_Law_law 227 = .ok (.iload_n 3, 1) := by decide +kernel
theorem d_Law_law_228 : decode b_Law_law 228 = .ok (.bipush 7, 2) := by decide +kernel
theorem d_Law_law_230 : decode b_Law_law 230 = .ok (.iadd, 1) := by decide +kernel
theorem d_Law_law_231 : decode b_Law_law 231 = .ok (.iaload, 1) := by decide +kernel
theorem d_Law_law_232 : decode b_Law_law 232 = .ok (.invokevirtual 24, 3) := by decide +kernel
theorem d_Law_law_235 : decode b_Law_law 235 = .ok (.if_icmp .eq 712, 3) := by decide +kernel
theorem d_Law_law_238 : decode b_Law_law 238 = .ok (.iconst 0, 1) := by decide +kernel
theorem d_Law_law_239 : decode b_Law_law 239 = .ok (.ireturn, 1) := by decide +kernel
theorem d_Law_law_240 : decode b_Law_law 240 = .ok (.aload_n 1, 1) := by decide +kernel
theorem d_Law_law_241 : decode b_Law_law 241 = .ok (.aload_n 0, 1) := by decide +kernel
theorem d_Law_law_242 : decode b_Law_law 242 = .ok (.iload_n 3, 1) := by decide +kernel
theorem d_Law_law_243 : decode b_Law_law 243 = .ok (.iconst 1, 1) := by decide +kernel
theorem d_Law_law_244 : decode b_Law_law 244 = .ok (.iadd, 1) := by decide +kernel
theorem d_Law_law_245 : decode b_Law_law 245 = .ok (.iaload, 1) := by decide +kernel
theorem d_Law_law_246 : decode b_Law_law 246 = .ok (.invokevirtual 25, 3) := by decide +kernel
theorem d_Law_law_249 : decode b_Law_law 249 = .ok (.aload_n 2, 1) := by decide +kernel
theorem d_Law_law_250 : decode b_Law_law 250 = .ok (.aload_n 0, 1) := by decide +kernel
theorem d_Law_law_251 : decode b_Law_law 251 = .ok (.iload_n 3, 1) := by decide +kernel
theorem d_Law_law_252 : decode b_Law_law 252 = .ok (.iconst 1, 1) := by decide +kernel
theorem d_Law_law_253 : decode b_Law_law 253 = .ok (.iadd, 1) := by decide +kernel
theorem d_Law_law_254 : decode b_Law_law 254 = .ok (.iaload, 1) := by decide +kernel
theorem d_Law_law_255 : decode b_Law_law 255 = .ok (.invokevirtual 29, 3) := by decide +kernel
theorem d_Law_law_258 : decode b_Law_law 258 = .ok (.if_icmp .eq 689, 3) := by decide +kernel
theorem d_Law_law_261 : decode b_Law_law 261 = .ok (.iconst 0, 1) := by decide +kernel
theorem d_Law_law_262 : decode b_Law_law 262 = .ok (.ireturn, 1) := by decide +kernel
theorem d_Law_law_263 : decode b_Law_law 263 = .ok (.aload_n 1, 1) := by decide +kernel
theorem d_Law_law_264 : decode b_Law_law 264 = .ok (.aload_n 0, 1) := by decide +kernel
theorem d_Law_law_265 : decode b_Law_law 265 = .ok (.iload_n 3, 1) := by decide +kernel
theorem d_Law_law_266 : decode b_Law_law 266 = .ok (.iconst 1, 1) := by decide +kernel
theorem d_Law_law_267 : decode b_Law_law 267 = .ok (.iadd, 1) := by decide +kernel
theorem d_Law_law_268 : decode b_Law_law 268 = .ok (.iaload, 1) := by decide +kernel
theorem d_Law_law_269 : decode b_Law_law 269 = .ok (.aload_n 0, 1) := by decide +kernel
theorem d_Law_law_270 : decode b_Law_law 270 = .ok (.iload_n 3, 1) := by decide +kernel
theorem d_Law_law_271 : decode b_Law_law 271 = .ok (.iconst 2, 1) := by decide +kernel
theorem d_Law_law_272 : decode b_Law_law 272 = .ok (.iadd, 1) := by decide +kernel
theorem d_Law_law_273 : decode b_Law_law 273 = .ok (.iaload, 1) := by decide +kernel
theorem d_Law_law_274 : decode b_Law_law 274 = .ok (.invokevirtual 30, 3) := by decide +kernel
theorem d_Law_law_277 : decode b_Law_law 277 = .ok (.aload_n 2, 1) := by decide +kernel
theorem d_Law_law_278 : decode b_Law_law 278 = .ok (.aload_n 0, 1) := by decide +kernel
theorem d_Law_law_279 : decode b_Law_law 279 = .ok (.iload_n 3, 1) := by decide +kernel
theorem d_Law_law_280 : decode b_Law_law 280 = .ok (.iconst 1, 1) := by decide +kernel
theorem d_Law_law_281 : decode b_Law_law 281 = .ok (.iadd, 1) := by decide +kernel
theorem d_Law_law_282 : decode b_Law_law 282 = .ok (.iaload, 1) := by decide +kernel
theorem d_Law_law_283 : decode b_Law_law 283 = .ok (.aload_n 0, 1) := by decide +kernel
theorem d_Law_law_284 : decode b_Law_law 284 = .ok (.iload_n 3, 1) := by decide +kernel
theorem d_Law_law_285 : decode b_Law_law 285 = .ok (.iconst 2, 1) := by decide +kernel
theorem d_Law_law_286 : decode b_Law_law 286 = .ok (.iadd, 1) := by decide +kernel
theorem d_Law_law_287 : decode b_Law_law 287 = .ok (.iaload, 1) := by decide +kernel
theorem d_Law_law_288 : decode b_Law_law 288 = .ok (.invokevirtual 34, 3) := by decide +kernel
theorem d_Law_law_291 : decode b_Law_law 291 = .ok (.if_icmp .eq 656, 3) := by decide +kernel
theorem d_Law_law_294 : decode b_Law_law 294 = .ok (.iconst 0, 1) := by decide +kernel
theorem d_Law_law_295 : decode b_Law_law 295 = .ok (.ireturn, 1) := by decide +kernel
theorem d_Law_law_296 : decode b_Law_law 296 = .ok (.aload_n 1, 1) := by decide +kernel
theorem d_Law_law_297 : decode b_Law_law 297 = .ok (.aload_n 0, 1) := by decide +kernel
theorem d_Law_law_298 : decode b_Law_law 298 = .ok (.iload_n 3, 1) := by decide +kernel
theorem d_Law_law_299 : decode b_Law_law 299 = .ok (.iconst 1, 1) := by decide +kernel
theorem d_Law_law_300 : decode b_Law_law 300 = .ok (.iadd, 1) := by decide +kernel
theorem d_Law_law_301 : decode b_Law_law 301 = .ok (.iaload, 1) := by decide +kernel
theorem d_Law_law_302 : decode b_Law_law 302 = .ok (.aload_n 0, 1) := by decide +kernel
theorem d_Law_law_303 : decode b_Law_law 303 = .ok (.iload_n 3, 1) := by decide +kernel
theorem d_Law_law_304 : decode b_Law_law 304 = .ok (.iconst 2, 1) := by decide +kernel
theorem d_Law_law_305 : decode b_Law_law 305 = .ok (.iadd, 1) := by decide +kernel
theorem d_Law_law_306 : decode b_Law_law 306 = .ok (.iaload, 1) := by decide +kernel
theorem d_Law_law_307 : decode b_Law_law 307 = .ok (.invokevirtual 35, 3) := by decide +kernel
theorem d_Law_law_310 : decode b_Law_law 310 = .ok (.aload_n 2, 1) := by decide +kernel
theorem d_Law_law_311 : decode b_Law_law 311 = .ok (.aload_n 0, 1) := by decide +kernel
theorem d_Law_law_312 : decode b_Law_law 312 = .ok (.iload_n 3, 1) := by decide +kernel
theorem d_Law_law_313 : decode b_Law_law 313 = .ok (.iconst 1, 1) := by decide +kernel
theorem d_Law_law_314 : decode b_Law_law 314 = .ok (.iadd, 1) := by decide +kernel
theorem d_Law_law_315 : decode b_Law_law 315 = .ok (.iaload, 1) := by decide +kernel
theorem d_Law_law_316 : decode b_Law_law 316 = .ok (.aload_n 0, 1) := by decide +kernel
theorem d_Law_law_317 : decode b_Law_law 317 = .ok (.iload_n 3, 1) := by decide +kernel
theorem d_Law_law_318 : decode b_Law_law 318 = .ok (.iconst 2, 1) := by decide +kernel
theorem d_Law_law_319 : decode b_Law_law 319 = .ok (.iadd, 1) := by decide +kernel
theorem d_Law_law_320 : decode b_Law_law 320 = .ok (.iaload, 1) := by decide +kernel
theorem d_Law_law_321 : decode b_Law_law 321 = .ok (.invokevirtual 39, 3) := by decide +kernel
theorem d_Law_law_324 : decode b_Law_law 324 = .ok (.if_icmp .eq 623, 3) := by decide +kernel
theorem d_Law_law_327 : decode b_Law_law 327 = .ok (.iconst 0, 1) := by decide +kernel
theorem d_Law_law_328 : decode b_Law_law 328 = .ok (.ireturn, 1) := by decide +kernel
theorem d_Law_law_329 : decode b_Law_law 329 = .ok (.aload_n 1, 1) := by decide +kernel
theorem d_Law_law_330 : decode b_Law_law 330 = .ok (.aload_n 0, 1) := by decide +kernel
theorem d_Law_law_331 : decode b_Law_law 331 = .ok (.iload_n 3, 1) := by decide +kernel
theorem d_Law_law_332 : decode b_Law_law 332 = .ok (.iconst 1, 1) := by decide +kernel
theorem d_Law_law_333 : decode b_Law_law 333 = .ok (.iadd, 1) := by decide +kernel
theorem d_Law_law_334 : decode b_Law_law 334 = .ok (.iaload, 1) := by decide +kernel
theorem d_Law_law_335 : decode b_Law_law 335 = .ok (.aload_n 0, 1) := by decide +kernel
theorem d_Law_law_336 : decode b_Law_law 336 = .ok (.iload_n 3, 1) := by decide +kernel
theorem d_Law_law_337 : decode b_Law_law 337 = .ok (.iconst 2, 1) := by decide +kernel
theorem d_Law_law_338 : decode b_Law_law 338 = .ok (.iadd, 1) := by decide +kernel
theorem d_Law_law_339 : decode b_Law_law 339 = .ok (.iaload, 1) := by decide +kernel
theorem d_Law_law_340 : decode b_Law_law 340 = .ok (.aload_n 0, 1) := by decide +kernel
theorem d_Law_law_341 : decode b_Law_law 341 = .ok (.iload_n 3, 1) := by decide +kernel
theorem d_Law_law_342 : decode b_Law_law 342 = .ok (.iconst 3, 1) := by decide +kernel
theorem d_Law_law_343 : decode b_Law_law 343 = .ok (.iadd, 1) := by decide +kernel
theorem d_Law_law_344 : decode b_Law_law 344 = .ok (.iaload, 1) := by decide +kernel
theorem d_Law_law_345 : decode b_Law_law 345 = .ok (.aload_n 0, 1) := by decide +kernel
theorem d_Law_law_346 : decode b_Law_law 346 = .ok (.iload_n 3, 1) := by decide +kernel
theorem d_Law_law_347 : decode b_Law_law 347 = .ok (.iconst 4, 1) := by decide +kernel
theorem d_Law_law_348 : decode b_Law_law 348 = .ok (.iadd, 1) := by decide +kernel
theorem d_Law_law_349 : decode b_Law_law 349 = .ok (.iaload, 1) := by decide +kernel
theorem d_Law_law_350 : decode b_Law_law 350 = .ok (.invokevirtual 40, 3) := by decide +kernel
theorem d_Law_law_353 : decode b_Law_law 353 = .ok (.aload_n 2, 1) := by decide +kernel
theorem d_Law_law_354 : decode b_Law_law 354 = .ok (.aload_n 0, 1) := by decide +kernel
theorem d_Law_law_355 : decode b_Law_law 355 = .ok (.iload_n 3, 1) := by decide +kernel
theorem d_Law_law_356 : decode b_Law_law 356 = .ok (.iconst 1, 1) := by decide +kernel
theorem d_Law_law_357 : decode b_Law_law 357 = .ok (.iadd, 1) := by decide +kernel
theorem d_Law_law_358 : decode b_Law_law 358 = .ok (.iaload, 1) := by decide +kernel
theorem d_Law_law_359 : decode b_Law_law 359 = .ok (.aload_n 0, 1) := by decide +kernel
theorem d_Law_law_360 : decode b_Law_law 360 = .ok (.iload_n 3, 1) := by decide +kernel
theorem d_Law_law_361 : decode b_Law_law 361 = .ok (.iconst 2, 1) := by decide +kernel
theorem d_Law_law_362 : decode b_Law_law 362 = .ok (.iadd, 1) := by decide +kernel
theorem d_Law_law_363 : decode b_Law_law 363 = .ok (.iaload, 1) := by decide +kernel
theorem d_Law_law_364 : decode b_Law_law 364 = .ok (.aload_n 0, 1) := by decide +kernel
theorem d_Law_law_365 : decode b_Law_law 365 = .ok (.iload_n 3, 1) := by decide +kernel
theorem d_Law_law_366 : decode b_Law_law 366 = .ok (.iconst 3, 1) := by decide +kernel
theorem d_Law_law_367 : decode b_Law_law 367 = .ok (.iadd, 1) := by decide +kernel
theorem d_Law_law_368 : decode b_Law_law 368 = .ok (.iaload, 1) := by decide +kernel
theorem d_Law_law_369 : decode b_Law_law 369 = .ok (.aload_n 0, 1) := by decide +kernel
theorem d_Law_law_370 : decode b_Law_law 370 = .ok (.iload_n 3, 1) := by decide +kernel
theorem d_Law_law_371 : decode b_Law_law 371 = .ok (.iconst 4, 1) := by decide +kernel
theorem d_Law_law_372 : decode b_Law_law 372 = .ok (.iadd, 1) := by decide +kernel
theorem d_Law_law_373 : decode b_Law_law 373 = .ok (.iaload, 1) := by decide +kernel
theorem d_Law_law_374 : decode b_Law_law 374 = .ok (.invokevirtual 44, 3) := by decide +kernel
theorem d_Law_law_377 : decode b_Law_law 377 = .ok (.lcmp, 1) := by decide +kernel
theorem d_Law_law_378 : decode b_Law_law 378 = .ok (.ifCond .eq 569, 3) := by decide +kernel
theorem d_Law_law_381 : decode b_Law_law 381 = .ok (.iconst 0, 1) := by decide +kernel
theorem d_Law_law_382 : decode b_Law_law 382 = .ok (.ireturn, 1) := by decide +kernel
theorem d_Law_law_383 : decode b_Law_law 383 = .ok (.aload_n 1, 1) := by decide +kernel
theorem d_Law_law_384 : decode b_Law_law 384 = .ok (.aload_n 0, 1) := by decide +kernel
theorem d_Law_law_385 : decode b_Law_law 385 = .ok (.iload_n 3, 1) := by decide +kernel
theorem d_Law_law_386 : decode b_Law_law 386 = .ok (.iconst 1, 1) := by decide +kernel
theorem d_Law_law_387 : decode b_Law_law 387 = .ok (.iadd, 1) := by decide +kernel
theorem d_Law_law_388 : decode b_Law_law 388 = .ok (.iaload, 1) := by decide +kernel
theorem d_Law_law_389 : decode b_Law_law 389 = .ok (.aload_n 0, 1) := by decide +kernel
theorem d_Law_law_390 : decode b_Law_law 390 = .ok (.iload_n 3, 1) := by decide +kernel
theorem d_Law_law_391 : decode b_Law_law 391 = .ok (.iconst 2, 1) := by decide +kernel
theorem d_Law_law_392 : decode b_Law_law 392 = .ok (.iadd, 1) := by decide +kernel
theorem d_Law_law_393 : decode b_Law_law 393 = .ok (.iaload, 1) := by decide +kernel
theorem d_Law_law_394 : decode b_Law_law 394 = .ok (.aload_n 0, 1) := by decide +kernel
theorem d_Law_law_395 : decode b_Law_law 395 = .ok (.iload_n 3, 1) := by decide +kernel
theorem d_Law_law_396 : decode b_Law_law 396 = .ok (.iconst 3, 1) := by decide +kernel
theorem d_Law_law_397 : decode b_Law_law 397 = .ok (.iadd, 1) := by decide +kernel
theorem d_Law_law_398 : decode b_Law_law 398 = .ok (.iaload, 1) := by decide +kernel
theorem d_Law_law_399 : decode b_Law_law 399 = .ok (.invokevirtual 45, 3) := by decide +kernel
theorem d_Law_law_402 : decode b_Law_law 402 = .ok (.aload_n 2, 1) := by decide +kernel
theorem d_Law_law_403 : decode b_Law_law 403 = .ok (.aload_n 0, 1) := by decide +kernel
theorem d_Law_law_404 : decode b_Law_law 404 = .ok (.iload_n 3, 1) := by decide +kernel
theorem d_Law_law_405 : decode b_Law_law 405 = .ok (.iconst 1, 1) := by decide +kernel
theorem d_Law_law_406 : decode b_Law_law 406 = .ok (.iadd, 1) := by decide +kernel
theorem d_Law_law_407 : decode b_Law_law 407 = .ok (.iaload, 1) := by decide +kernel
theorem d_Law_law_408 : decode b_Law_law 408 = .ok (.aload_n 0, 1) := by decide +kernel
theorem d_Law_law_409 : decode b_Law_law 409 = .ok (.iload_n 3, 1) := by decide +kernel
theorem d_Law_law_410 : decode b_Law_law 410 = .ok (.iconst 2, 1) := by decide +kernel
theorem d_Law_law_411 : decode b_Law_law 411 = .ok (.iadd, 1) := by decide +kernel
theorem d_Law_law_412 : decode b_Law_law 412 = .ok (.iaload, 1) := by decide +kernel
theorem d_Law_law_413 : decode b_Law_law 413 = .ok (.aload_n 0, 1) := by decide +kernel
theorem d_Law_law_414 : decode b_Law_law 414 = .ok (.iload_n 3, 1) := by decide +kernel
theorem d_Law_law_415 : decode b_Law_law 415 = .ok (.iconst 3, 1) := by decide +kernel
theorem d_Law_law_416 : decode b_Law_law 416 = .ok (.iadd, 1) := by decide +kernel
theorem d_Law_law_417 : decode b_Law_law 417 = .ok (.iaload, 1) := by decide +kernel
theorem d_Law_law_418 : decode b_Law_law 418 = .ok (.invokevirtual 49, 3) := by decide +kernel
theorem d_Law_law_421 : decode b_Law_law 421 = .ok (.if_icmp .eq 526, 3) := by decide +kernel
theorem d_Law_law_424 : decode b_Law_law 424 = .ok (.iconst 0, 1) := by decide +kernel
theorem d_Law_law_425 : decode b_Law_law 425 = .ok (.ireturn, 1) := by decide +kernel
theorem d_Law_law_426 : decode b_Law_law 426 = .ok (.aload_n 1, 1) := by decide +kernel
theorem d_Law_law_427 : decode b_Law_law 427 = .ok (.aload_n 0, 1) := by decide +kernel
theorem d_Law_law_428 : decode b_Law_law 428 = .ok (.iload_n 3, 1) := by decide +kernel
theorem d_Law_law_429 : decode b_Law_law 429 = .ok (.iconst 1, 1) := by decide +kernel
theorem d_Law_law_430 : decode b_Law_law 430 = .ok (.iadd, 1) := by decide +kernel
theorem d_Law_law_431 : decode b_Law_law 431 = .ok (.iaload, 1) := by decide +kernel
theorem d_Law_law_432 : decode b_Law_law 432 = .ok (.aload_n 0, 1) := by decide +kernel
theorem d_Law_law_433 : decode b_Law_law 433 = .ok (.iload_n 3, 1) := by decide +kernel
theorem d_Law_law_434 : decode b_Law_law 434 = .ok (.iconst 2, 1) := by decide +kernel
theorem d_Law_law_435 : decode b_Law_law 435 = .ok (.iadd, 1) := by decide +kernel
theorem d_Law_law_436 : decode b_Law_law 436 = .ok (.iaload, 1) := by decide +kernel
theorem d_Law_law_437 : decode b_Law_law 437 = .ok (.aload_n 0, 1) := by decide +kernel
theorem d_Law_law_438 : decode b_Law_law 438 = .ok (.iload_n 3, 1) := by decide +kernel
theorem d_Law_law_439 : decode b_Law_law 439 = .ok (.iconst 3, 1) := by decide +kernel
theorem d_Law_law_440 : decode b_Law_law 440 = .ok (.iadd, 1) := by decide +kernel
theorem d_Law_law_441 : decode b_Law_law 441 = .ok (.iaload, 1) := by decide +kernel
theorem d_Law_law_442 : decode b_Law_law 442 = .ok (.aload_n 0, 1) := by decide +kernel
theorem d_Law_law_443 : decode b_Law_law 443 = .ok (.iload_n 3, 1) := by decide +kernel
theorem d_Law_law_444 : decode b_Law_law 444 = .ok (.iconst 4, 1) := by decide +kernel
theorem d_Law_law_445 : decode b_Law_law 445 = .ok (.iadd, 1) := by decide +kernel
theorem d_Law_law_446 : decode b_Law_law 446 = .ok (.iaload, 1) := by decide +kernel
theorem d_Law_law_447 : decode b_Law_law 447 = .ok (.invokevirtual 50, 3) := by decide +kernel
theorem d_Law_law_450 : decode b_Law_law 450 = .ok (.aload_n 2, 1) := by decide +kernel
theorem d_Law_law_451 : decode b_Law_law 451 = .ok (.aload_n 0, 1) := by decide +kernel
theorem d_Law_law_452 : decode b_Law_law 452 = .ok (.iload_n 3, 1) := by decide +kernel
theorem d_Law_law_453 : decode b_Law_law 453 = .ok (.iconst 1, 1) := by decide +kernel
theorem d_Law_law_454 : decode b_Law_law 454 = .ok (.iadd, 1) := by decide +kernel
theorem d_Law_law_455 : decode b_Law_law 455 = .ok (.iaload, 1) := by decide +kernel
theorem d_Law_law_456 : decode b_Law_law 456 = .ok (.aload_n 0, 1) := by decide +kernel
theorem d_Law_law_457 : decode b_Law_law 457 = .ok (.iload_n 3, 1) := by decide +kernel
theorem d_Law_law_458 : decode b_Law_law 458 = .ok (.iconst 2, 1) := by decide +kernel
theorem d_Law_law_459 : decode b_Law_law 459 = .ok (.iadd, 1) := by decide +kernel
theorem d_Law_law_460 : decode b_Law_law 460 = .ok (.iaload, 1) := by decide +kernel
theorem d_Law_law_461 : decode b_Law_law 461 = .ok (.aload_n 0, 1) := by decide +kernel
theorem d_Law_law_462 : decode b_Law_law 462 = .ok (.iload_n 3, 1) := by decide +kernel
theorem d_Law_law_463 : decode b_Law_law 463 = .ok (.iconst 3, 1) := by decide +kernel
theorem d_Law_law_464 : decode b_Law_law 464 = .ok (.iadd, 1) := by decide +kernel
theorem d_Law_law_465 : decode b_Law_law 465 = .ok (.iaload, 1) := by decide +kernel
theorem d_Law_law_466 : decode b_Law_law 466 = .ok (.aload_n 0, 1) := by decide +kernel
theorem d_Law_law_467 : decode b_Law_law 467 = .ok (.iload_n 3, 1) := by decide +kernel
theorem d_Law_law_468 : decode b_Law_law 468 = .ok (.iconst 4, 1) := by decide +kernel
theorem d_Law_law_469 : decode b_Law_law 469 = .ok (.iadd, 1) := by decide +kernel
theorem d_Law_law_470 : decode b_Law_law 470 = .ok (.iaload, 1) := by decide +kernel
theorem d_Law_law_471 : decode b_Law_law 471 = .ok (.invokevirtual 54, 3) := by decide +kernel
theorem d_Law_law_474 : decode b_Law_law 474 = .ok (.if_icmp .eq 473, 3) := by decide +kernel
theorem d_Law_law_477 : decode b_Law_law 477 = .ok (.iconst 0, 1) := by decide +kernel
theorem d_Law_law_478 : decode b_Law_law 478 = .ok (.ireturn, 1) := by decide +kernel
theorem d_Law_law_479 : decode b_Law_law 479 = .ok (.aload_n 1, 1) := by decide +kernel
theorem d_Law_law_480 : decode b_Law_law 480 = .ok (.aload_n 0, 1) := by decide +kernel
theorem d_Law_law_481 : decode b_Law_law 481 = .ok (.iload_n 3, 1) := by decide +kernel
theorem d_Law_law_482 : decode b_Law_law 482 = .ok (.iconst 1, 1) := by decide +kernel
theorem d_Law_law_483 : decode b_Law_law 483 = .ok (.iadd, 1) := by decide +kernel
theorem d_Law_law_484 : decode b_Law_law 484 = .ok (.iaload, 1) := by decide +kernel
theorem d_Law_law_485 : decode b_Law_law 485 = .ok (.invokevirtual 55, 3) := by decide +kernel
theorem d_Law_law_488 : decode b_Law_law 488 = .ok (.aload_n 2, 1) := by decide +kernel
theorem d_Law_law_489 : decode b_Law_law 489 = .ok (.aload_n 0, 1) := by decide +kernel
theorem d_Law_law_490 : decode b_Law_law 490 = .ok (.iload_n 3, 1) := by decide +kernel
theorem d_Law_law_491 : decode b_Law_law 491 = .ok (.iconst 1, 1) := by decide +kernel
theorem d_Law_law_492 : decode b_Law_law 492 = .ok (.iadd, 1) := by decide +kernel
theorem d_Law_law_493 : decode b_Law_law 493 = .ok (.iaload, 1) := by decide +kernel
theorem d_Law_law_494 : decode b_Law_law 494 = .ok (.invokevirtual 59, 3) := by decide +kernel
theorem d_Law_law_497 : decode b_Law_law 497 = .ok (.if_icmp .eq 450, 3) := by decide +kernel
theorem d_Law_law_500 : decode b_Law_law 500 = .ok (.iconst 0, 1) := by decide +kernel
theorem d_Law_law_501 : decode b_Law_law 501 = .ok (.ireturn, 1) := by decide +kernel
theorem d_Law_law_502 : decode b_Law_law 502 = .ok (.aload_n 1, 1) := by decide +kernel
theorem d_Law_law_503 : decode b_Law_law 503 = .ok (.aload_n 0, 1) := by decide +kernel
theorem d_Law_law_504 : decode b_Law_law 504 = .ok (.iload_n 3, 1) := by decide +kernel
theorem d_Law_law_505 : decode b_Law_law 505 = .ok (.iconst 1, 1) := by decide +kernel
theorem d_Law_law_506 : decode b_Law_law 506 = .ok (.iadd, 1) := by decide +kernel
theorem d_Law_law_507 : decode b_Law_law 507 = .ok (.iaload, 1) := by decide +kernel
theorem d_Law_law_508 : decode b_Law_law 508 = .ok (.invokevirtual 60, 3) := by decide +kernel
theorem d_Law_law_511 : decode b_Law_law 511 = .ok (.aload_n 2, 1) := by decide +kernel
theorem d_Law_law_512 : decode b_Law_law 512 = .ok (.aload_n 0, 1) := by decide +kernel
theorem d_Law_law_513 : decode b_Law_law 513 = .ok (.iload_n 3, 1) := by decide +kernel
theorem d_Law_law_514 : decode b_Law_law 514 = .ok (.iconst 1, 1) := by decide +kernel
theorem d_Law_law_515 : decode b_Law_law 515 = .ok (.iadd, 1) := by decide +kernel
theorem d_Law_law_516 : decode b_Law_law 516 = .ok (.iaload, 1) := by decide +kernel
theorem d_Law_law_517 : decode b_Law_law 517 = .ok (.invokevirtual 63, 3) := by decide +kernel
theorem d_Law_law_520 : decode b_Law_law 520 = .ok (.if_icmp .eq 427, 3) := by decide +kernel
theorem d_Law_law_523 : decode b_Law_law 523 = .ok (.iconst 0, 1) := by decide +kernel
theorem d_Law_law_524 : decode b_Law_law 524 = .ok (.ireturn, 1) := by decide +kernel
theorem d_Law_law_525 : decode b_Law_law 525 = .ok (.aload_n 1, 1) := by decide +kernel
theorem d_Law_law_526 : decode b_Law_law 526 = .ok (.aload_n 0, 1) := by decide +kernel
theorem d_Law_law_527 : decode b_Law_law 527 = .ok (.iload_n 3, 1) := by decide +kernel
theorem d_Law_law_528 : decode b_Law_law 528 = .ok (.iconst 1, 1) := by decide +kernel
theorem d_Law_law_529 : decode b_Law_law 529 = .ok (.iadd, 1) := by decide +kernel
theorem d_Law_law_530 : decode b_Law_law 530 = .ok (.iaload, 1) := by decide +kernel
theorem d_Law_law_531 : decode b_Law_law 531 = .ok (.aload_n 0, 1) := by decide +kernel
theorem d_Law_law_532 : decode b_Law_law 532 = .ok (.iload_n 3, 1) := by decide +kernel
theorem d_Law_law_533 : decode b_Law_law 533 = .ok (.iconst 2, 1) := by decide +kernel
theorem d_Law_law_534 : decode b_Law_law 534 = .ok (.iadd, 1) := by decide +kernel
theorem d_Law_law_535 : decode b_Law_law 535 = .ok (.iaload, 1) := by decide +kernel
theorem d_Law_law_536 : decode b_Law_law 536 = .ok (.aload_n 0, 1) := by decide +kernel
theorem d_Law_law_537 : decode b_Law_law 537 = .ok (.iload_n 3, 1) := by decide +kernel
theorem d_Law_law_538 : decode b_Law_law 538 = .ok (.iconst 3, 1) := by decide +kernel
theorem d_Law_law_539 : decode b_Law_law 539 = .ok (.iadd, 1) := by decide +kernel
theorem d_Law_law_540 : decode b_Law_law 540 = .ok (.iaload, 1) := by decide +kernel
theorem d_Law_law_541 : decode b_Law_law 541 = .ok (.ifCond .eq 7, 3) := by decide +kernel
theorem d_Law_law_544 : decode b_Law_law 544 = .ok (.iconst 1, 1) := by decide +kernel
theorem d_Law_law_545 : decode b_Law_law 545 = .ok (.goto 4, 3) := by decide +kernel
theorem d_Law_law_548 : decode b_Law_law 548 = .ok (.iconst 0, 1) := by decide +kernel
theorem d_Law_law_549 : decode b_Law_law 549 = .ok (.invokevirtual 64, 3) := by decide +kernel
theorem d_Law_law_552 : decode b_Law_law 552 = .ok (.aload_n 2, 1) := by decide +kernel
theorem d_Law_law_553 : decode b_Law_law 553 = .ok (.aload_n 0, 1) := by decide +kernel
theorem d_Law_law_554 : decode b_Law_law 554 = .ok (.iload_n 3, 1) := by decide +kernel
theorem d_Law_law_555 : decode b_Law_law 555 = .ok (.iconst 1, 1) := by decide +kernel
theorem d_Law_law_556 : decode b_Law_law 556 = .ok (.iadd, 1) := by decide +kernel
theorem d_Law_law_557 : decode b_Law_law 557 = .ok (.iaload, 1) := by decide +kernel
theorem d_Law_law_558 : decode b_Law_law 558 = .ok (.aload_n 0, 1) := by decide +kernel
theorem d_Law_law_559 : decode b_Law_law 559 = .ok (.iload_n 3, 1) := by decide +kernel
theorem d_Law_law_560 : decode b_Law_law 560 = .ok (.iconst 2, 1) := by decide +kernel
theorem d_Law_law_561 : decode b_Law_law 561 = .ok (.iadd, 1) := by decide +kernel
theorem d_Law_law_562 : decode b_Law_law 562 = .ok (.iaload, 1) := by decide +kernel
theorem d_Law_law_563 : decode b_Law_law 563 = .ok (.aload_n 0, 1) := by decide +kernel
theorem d_Law_law_564 : decode b_Law_law 564 = .ok (.iload_n 3, 1) := by decide +kernel
theorem d_Law_law_565 : decode b_Law_law 565 = .ok (.iconst 3, 1) := by decide +kernel
theorem d_Law_law_566 : decode b_Law_law 566 = .ok (.iadd, 1) := by decide +kernel
theorem d_Law_law_567 : decode b_Law_law 567 = .ok (.iaload, 1) := by decide +kernel
theorem d_Law_law_568 : decode b_Law_law 568 = .ok (.ifCond .eq 7, 3) := by decide +kernel
theorem d_Law_law_571 : decode b_Law_law 571 = .ok (.iconst 1, 1) := by decide +kernel
theorem d_Law_law_572 : decode b_Law_law 572 = .ok (.goto 4, 3) := by decide +kernel
theorem d_Law_law_575 : decode b_Law_law 575 = .ok (.iconst 0, 1) := by decide +kernel
theorem d_Law_law_576 : decode b_Law_law 576 = .ok (.invokevirtual 68, 3) := by decide +kernel
theorem d_Law_law_579 : decode b_Law_law 579 = .ok (.if_icmp .eq 368, 3) := by decide +kernel
theorem d_Law_law_582 : decode b_Law_law 582 = .ok (.iconst 0, 1) := by decide +kernel
theorem d_Law_law_583 : decode b_Law_law 583 = .ok (.ireturn, 1) := by decide +kernel
theorem d_Law_law_584 : decode b_Law_law 584 = .ok (.aload_n 1, 1) := by decide +kernel
theorem d_Law_law_585 : decode b_Law_law 585 = .ok (.aload_n 0, 1) := by decide +kernel
theorem d_Law_law_586 : decode b_Law_law 586 = .ok (.iload_n 3, 1) := by decide +kernel
theorem d_Law_law_587 : decode b_Law_law 587 = .ok (.iconst 1, 1) := by decide +kernel
theorem d_Law_law_588 : decode b_Law_law 588 = .ok (.iadd, 1) := by decide +kernel
theorem d_Law_law_589 : decode b_Law_law 589 = .ok (.iaload, 1) := by decide +kernel
theorem d_Law_law_590 : decode b_Law_law 590 = .ok (.aload_n 0, 1) := by decide +kernel
theorem d_Law_law_591 : decode b_Law_law 591 = .ok (.iload_n 3, 1) := by decide +kernel
theorem d_Law_law_592 : decode b_Law_law 592 = .ok (.iconst 2, 1) := by decide +kernel
theorem d_Law_law_593 : decode b_Law_law 593 = .ok (.iadd, 1) := by decide +kernel
theorem d_Law_law_594 : decode b_Law_law 594 = .ok (.iaload, 1) := by decide +kernel
theorem d_Law_law_595 : decode b_Law_law 595 = .ok (.aload_n 0, 1) := by decide +kernel
theorem d_Law_law_596 : decode b_Law_law 596 = .ok (.iload_n 3, 1) := by decide +kernel
theorem d_Law_law_597 : decode b_Law_law 597 = .ok (.iconst 3, 1) := by decide +kernel
theorem d_Law_law_598 : decode b_Law_law 598 = .ok (.iadd, 1) := by decide +kernel
theorem d_Law_law_599 : decode b_Law_law 599 = .ok (.iaload, 1) := by decide +kernel
theorem d_Law_law_600 : decode b_Law_law 600 = .ok (.aload_n 0, 1) := by decide +kernel
theorem d_Law_law_601 : decode b_Law_law 601 = .ok (.iload_n 3, 1) := by decide +kernel
theorem d_Law_law_602 : decode b_Law_law 602 = .ok (.iconst 4, 1) := by decide +kernel
theorem d_Law_law_603 : decode b_Law_law 603 = .ok (.iadd, 1) := by decide +kernel
theorem d_Law_law_604 : decode b_Law_law 604 = .ok (.iaload, 1) := by decide +kernel
theorem d_Law_law_605 : decode b_Law_law 605 = .ok (.invokevirtual 69, 3) := by decide +kernel
theorem d_Law_law_608 : decode b_Law_law 608 = .ok (.aload_n 2, 1) := by decide +kernel
theorem d_Law_law_609 : decode b_Law_law 609 = .ok (.aload_n 0, 1) := by decide +kernel
theorem d_Law_law_610 : decode b_Law_law 610 = .ok (.iload_n 3, 1) := by decide +kernel
theorem d_Law_law_611 : decode b_Law_law 611 = .ok (.iconst 1, 1) := by decide +kernel
theorem d_Law_law_612 : decode b_Law_law 612 = .ok (.iadd, 1) := by decide +kernel
theorem d_Law_law_613 : decode b_Law_law 613 = .ok (.iaload, 1) := by decide +kernel
theorem d_Law_law_614 : decode b_Law_law 614 = .ok (.aload_n 0, 1) := by decide +kernel
theorem d_Law_law_615 : decode b_Law_law 615 = .ok (.iload_n 3, 1) := by decide +kernel
theorem d_Law_law_616 : decode b_Law_law 616 = .ok (.iconst 2, 1) := by decide +kernel
theorem d_Law_law_617 : decode b_Law_law 617 = .ok (.iadd, 1) := by decide +kernel
theorem d_Law_law_618 : decode b_Law_law 618 = .ok (.iaload, 1) := by decide +kernel
theorem d_Law_law_619 : decode b_Law_law 619 = .ok (.aload_n 0, 1) := by decide +kernel
theorem d_Law_law_620 : decode b_Law_law 620 = .ok (.iload_n 3, 1) := by decide +kernel
theorem d_Law_law_621 : decode b_Law_law 621 = .ok (.iconst 3, 1) := by decide +kernel
theorem d_Law_law_622 : decode b_Law_law 622 = .ok (.iadd, 1) := by decide +kernel
theorem d_Law_law_623 : decode b_Law_law 623 = .ok (.iaload, 1) := by decide +kernel
theorem d_Law_law_624 : decode b_Law_law 624 = .ok (.aload_n 0, 1) := by decide +kernel
theorem d_Law_law_625 : decode b_Law_law 625 = .ok (.iload_n 3, 1) := by decide +kernel
theorem d_Law_law_626 : decode b_Law_law 626 = .ok (.iconst 4, 1) := by decide +kernel
theorem d_Law_law_627 : decode b_Law_law 627 = .ok (.iadd, 1) := by decide +kernel
theorem d_Law_law_628 : decode b_Law_law 628 = .ok (.iaload, 1) := by decide +kernel
theorem d_Law_law_629 : decode b_Law_law 629 = .ok (.invokevirtual 72, 3) := by decide +kernel
theorem d_Law_law_632 : decode b_Law_law 632 = .ok (.lcmp, 1) := by decide +kernel
theorem d_Law_law_633 : decode b_Law_law 633 = .ok (.ifCond .eq 314, 3) := by decide +kernel
theorem d_Law_law_636 : decode b_Law_law 636 = .ok (.iconst 0, 1) := by decide +kernel
theorem d_Law_law_637 : decode b_Law_law 637 = .ok (.ireturn, 1) := by decide +kernel
theorem d_Law_law_638 : decode b_Law_law 638 = .ok (.aload_n 1, 1) := by decide +kernel
theorem d_Law_law_639 : decode b_Law_law 639 = .ok (.aload_n 0, 1) := by decide +kernel
theorem d_Law_law_640 : decode b_Law_law 640 = .ok (.iload_n 3, 1) := by decide +kernel
theorem d_Law_law_641 : decode b_Law_law 641 = .ok (.iconst 1, 1) := by decide +kernel
theorem d_Law_law_642 : decode b_Law_law 642 = .ok (.iadd, 1) := by decide +kernel
theorem d_Law_law_643 : decode b_Law_law 643 = .ok (.iaload, 1) := by decide +kernel
theorem d_Law_law_644 : decode b_Law_law 644 = .ok (.aload_n 0, 1) := by decide +kernel
theorem d_Law_law_645 : decode b_Law_law 645 = .ok (.iload_n 3, 1) := by decide +kernel
theorem d_Law_law_646 : decode b_Law_law 646 = .ok (.iconst 2, 1) := by decide +kernel
theorem d_Law_law_647 : decode b_Law_law 647 = .ok (.iadd, 1) := by decide +kernel
theorem d_Law_law_648 : decode b_Law_law 648 = .ok (.iaload, 1) := by decide +kernel
theorem d_Law_law_649 : decode b_Law_law 649 = .ok (.aload_n 0, 1) := by decide +kernel
theorem d_Law_law_650 : decode b_Law_law 650 = .ok (.iload_n 3, 1) := by decide +kernel
theorem d_Law_law_651 : decode b_Law_law 651 = .ok (.iconst 3, 1) := by decide +kernel
theorem d_Law_law_652 : decode b_Law_law 652 = .ok (.iadd, 1) := by decide +kernel
theorem d_Law_law_653 : decode b_Law_law 653 = .ok (.iaload, 1) := by decide +kernel
theorem d_Law_law_654 : decode b_Law_law 654 = .ok (.invokevirtual 73, 3) := by decide +kernel
theorem d_Law_law_657 : decode b_Law_law 657 = .ok (.aload_n 2, 1) := by decide +kernel
theorem d_Law_law_658 : decode b_Law_law 658 = .ok (.aload_n 0, 1) := by decide +kernel
theorem d_Law_law_659 : decode b_Law_law 659 = .ok (.iload_n 3, 1) := by decide +kernel
theorem d_Law_law_660 : decode b_Law_law 660 = .ok (.iconst 1, 1) := by decide +kernel
theorem d_Law_law_661 : decode b_Law_law 661 = .ok (.iadd, 1) := by decide +kernel
theorem d_Law_law_662 : decode b_Law_law 662 = .ok (.iaload, 1) := by decide +kernel
theorem d_Law_law_663 : decode b_Law_law 663 = .ok (.aload_n 0, 1) := by decide +kernel
theorem d_Law_law_664 : decode b_Law_law 664 = .ok (.iload_n 3, 1) := by decide +kernel
theorem d_Law_law_665 : decode b_Law_law 665 = .ok (.iconst 2, 1) := by decide +kernel
theorem d_Law_law_666 : decode b_Law_law 666 = .ok (.iadd, 1) := by decide +kernel
theorem d_Law_law_667 : decode b_Law_law 667 = .ok (.iaload, 1) := by decide +kernel
theorem d_Law_law_668 : decode b_Law_law 668 = .ok (.aload_n 0, 1) := by decide +kernel
theorem d_Law_law_669 : decode b_Law_law 669 = .ok (.iload_n 3, 1) := by decide +kernel
theorem d_Law_law_670 : decode b_Law_law 670 = .ok (.iconst 3, 1) := by decide +kernel
theorem d_Law_law_671 : decode b_Law_law 671 = .ok (.iadd, 1) := by decide +kernel
theorem d_Law_law_672 : decode b_Law_law 672 = .ok (.iaload, 1) := by decide +kernel
theorem d_Law_law_673 : decode b_Law_law 673 = .ok (.invokevirtual 77, 3) := by decide +kernel
theorem d_Law_law_676 : decode b_Law_law 676 = .ok (.if_icmp .eq 271, 3) := by decide +kernel
theorem d_Law_law_679 : decode b_Law_law 679 = .ok (.iconst 0, 1) := by decide +kernel
theorem d_Law_law_680 : decode b_Law_law 680 = .ok (.ireturn, 1) := by decide +kernel
theorem d_Law_law_681 : decode b_Law_law 681 = .ok (.aload_n 1, 1) := by decide +kernel
theorem d_Law_law_682 : decode b_Law_law 682 = .ok (.aload_n 0, 1) := by decide +kernel
theorem d_Law_law_683 : decode b_Law_law 683 = .ok (.iload_n 3, 1) := by decide +kernel
theorem d_Law_law_684 : decode b_Law_law 684 = .ok (.iconst 1, 1) := by decide +kernel
theorem d_Law_law_685 : decode b_Law_law 685 = .ok (.iadd, 1) := by decide +kernel
theorem d_Law_law_686 : decode b_Law_law 686 = .ok (.iaload, 1) := by decide +kernel
theorem d_Law_law_687 : decode b_Law_law 687 = .ok (.invokevirtual 78, 3) := by decide +kernel
theorem d_Law_law_690 : decode b_Law_law 690 = .ok (.aload_n 2, 1) := by decide +kernel
theorem d_Law_law_691 : decode b_Law_law 691 = .ok (.aload_n 0, 1) := by decide +kernel
theorem d_Law_law_692 : decode b_Law_law 692 = .ok (.iload_n 3, 1) := by decide +kernel
theorem d_Law_law_693 : decode b_Law_law 693 = .ok (.iconst 1, 1) := by decide +kernel
theorem d_Law_law_694 : decode b_Law_law 694 = .ok (.iadd, 1) := by decide +kernel
theorem d_Law_law_695 : decode b_Law_law 695 = .ok (.iaload, 1) := by decide +kernel
theorem d_Law_law_696 : decode b_Law_law 696 = .ok (.invokevirtual 81, 3) := by decide +kernel
theorem d_Law_law_699 : decode b_Law_law 699 = .ok (.if_icmp .eq 248, 3) := by decide +kernel
theorem d_Law_law_702 : decode b_Law_law 702 = .ok (.iconst 0, 1) := by decide +kernel
theorem d_Law_law_703 : decode b_Law_law 703 = .ok (.ireturn, 1) := by decide +kernel
theorem d_Law_law_704 : decode b_Law_law 704 = .ok (.aload_n 1, 1) := by decide +kernel
theorem d_Law_law_705 : decode b_Law_law 705 = .ok (.aload_n 0, 1) := by decide +kernel
theorem d_Law_law_706 : decode b_Law_law 706 = .ok (.iload_n 3, 1) := by decide +kernel
theorem d_Law_law_707 : decode b_Law_law 707 = .ok (.iconst 1, 1) := by decide +kernel
theorem d_Law_law_708 : decode b_Law_law 708 = .ok (.iadd, 1) := by decide +kernel
theorem d_Law_law_709 : decode b_Law_law 709 = .ok (.iaload, 1) := by decide +kernel
theorem d_Law_law_710 : decode b_Law_law 710 = .ok (.aload_n 0, 1) := by decide +kernel
theorem d_Law_law_711 : decode b_Law_law 711 = .ok (.iload_n 3, 1) := by decide +kernel
theorem d_Law_law_712 : decode b_Law_law 712 = .ok (.iconst 2, 1) := by decide +kernel
theorem d_Law_law_713 : decode b_Law_law 713 = .ok (.iadd, 1) := by decide +kernel
theorem d_Law_law_714 : decode b_Law_law 714 = .ok (.iaload, 1) := by decide +kernel
theorem d_Law_law_715 : decode b_Law_law 715 = .ok (.aload_n 0, 1) := by decide +kernel
theorem d_Law_law_716 : decode b_Law_law 716 = .ok (.iload_n 3, 1) := by decide +kernel
theorem d_Law_law_717 : decode b_Law_law 717 = .ok (.iconst 3, 1) := by decide +kernel
theorem d_Law_law_718 : decode b_Law_law 718 = .ok (.iadd, 1) := by decide +kernel
theorem d_Law_law_719 : decode b_Law_law 719 = .ok (.iaload, 1) := by decide +kernel
theorem d_Law_law_720 : decode b_Law_law 720 = .ok (.invokevirtual 82, 3) := by decide +kernel
theorem d_Law_law_723 : decode b_Law_law 723 = .ok (.aload_n 2, 1) := by decide +kernel
theorem d_Law_law_724 : decode b_Law_law 724 = .ok (.aload_n 0, 1) := by decide +kernel
theorem d_Law_law_725 : decode b_Law_law 725 = .ok (.iload_n 3, 1) := by decide +kernel
theorem d_Law_law_726 : decode b_Law_law 726 = .ok (.iconst 1, 1) := by decide +kernel
theorem d_Law_law_727 : decode b_Law_law 727 = .ok (.iadd, 1) := by decide +kernel
theorem d_Law_law_728 : decode b_Law_law 728 = .ok (.iaload, 1) := by decide +kernel
theorem d_Law_law_729 : decode b_Law_law 729 = .ok (.aload_n 0, 1) := by decide +kernel
theorem d_Law_law_730 : decode b_Law_law 730 = .ok (.iload_n 3, 1) := by decide +kernel
theorem d_Law_law_731 : decode b_Law_law 731 = .ok (.iconst 2, 1) := by decide +kernel
theorem d_Law_law_732 : decode b_Law_law 732 = .ok (.iadd, 1) := by decide +kernel
theorem d_Law_law_733 : decode b_Law_law 733 = .ok (.iaload, 1) := by decide +kernel
theorem d_Law_law_734 : decode b_Law_law 734 = .ok (.aload_n 0, 1) := by decide +kernel
theorem d_Law_law_735 : decode b_Law_law 735 = .ok (.iload_n 3, 1) := by decide +kernel
theorem d_Law_law_736 : decode b_Law_law 736 = .ok (.iconst 3, 1) := by decide +kernel
theorem d_Law_law_737 : decode b_Law_law 737 = .ok (.iadd, 1) := by decide +kernel
theorem d_Law_law_738 : decode b_Law_law 738 = .ok (.iaload, 1) := by decide +kernel
theorem d_Law_law_739 : decode b_Law_law 739 = .ok (.invokevirtual 85, 3) := by decide +kernel
theorem d_Law_law_742 : decode b_Law_law 742 = .ok (.if_icmp .eq 205, 3) := by decide +kernel
theorem d_Law_law_745 : decode b_Law_law 745 = .ok (.iconst 0, 1) := by decide +kernel
theorem d_Law_law_746 : decode b_Law_law 746 = .ok (.ireturn, 1) := by decide +kernel
theorem d_Law_law_747 : decode b_Law_law 747 = .ok (.aload_n 1, 1) := by decide +kernel
theorem d_Law_law_748 : decode b_Law_law 748 = .ok (.aload_n 0, 1) := by decide +kernel
theorem d_Law_law_749 : decode b_Law_law 749 = .ok (.iload_n 3, 1) := by decide +kernel
theorem d_Law_law_750 : decode b_Law_law 750 = .ok (.iconst 1, 1) := by decide +kernel
theorem d_Law_law_751 : decode b_Law_law 751 = .ok (.iadd, 1) := by decide +kernel
theorem d_Law_law_752 : decode b_Law_law 752 = .ok (.iaload, 1) := by decide +kernel
theorem d_Law_law_753 : decode b_Law_law 753 = .ok (.invokevirtual 86, 3) := by decide +kernel
theorem d_Law_law_756 : decode b_Law_law 756 = .ok (.aload_n 2, 1) := by decide +kernel
theorem d_Law_law_757 : decode b_Law_law 757 = .ok (.aload_n 0, 1) := by decide +kernel
theorem d_Law_law_758 : decode b_Law_law 758 = .ok (.iload_n 3, 1) := by decide +kernel
theorem d_Law_law_759 : decode b_Law_law 759 = .ok (.iconst 1, 1) := by decide +kernel
theorem d_Law_law_760 : decode b_Law_law 760 = .ok (.iadd, 1) := by decide +kernel
theorem d_Law_law_761 : decode b_Law_law 761 = .ok (.iaload, 1) := by decide +kernel
theorem d_Law_law_762 : decode b_Law_law 762 = .ok (.invokevirtual 89, 3) := by decide +kernel
theorem d_Law_law_765 : decode b_Law_law 765 = .ok (.if_icmp .eq 182, 3) := by decide +kernel
theorem d_Law_law_768 : decode b_Law_law 768 = .ok (.iconst 0, 1) := by decide +kernel
theorem d_Law_law_769 : decode b_Law_law 769 = .ok (.ireturn, 1) := by decide +kernel
theorem d_Law_law_770 : decode b_Law_law 770 = .ok (.aload_n 1, 1) := by decide +kernel
theorem d_Law_law_771 : decode b_Law_law 771 = .ok (.aload_n 0, 1) := by decide +kernel
theorem d_Law_law_772 : decode b_Law_law 772 = .ok (.iload_n 3, 1) := by decide +kernel
theorem d_Law_law_773 : decode b_Law_law 773 = .ok (.iconst 1, 1) := by decide +kernel
theorem d_Law_law_774 : decode b_Law_law 774 = .ok (.iadd, 1) := by decide +kernel
theorem d_Law_law_775 : decode b_Law_law 775 = .ok (.iaload, 1) := by decide +kernel
theorem d_Law_law_776 : decode b_Law_law 776 = .ok (.aload_n 0, 1) := by decide +kernel
theorem d_Law_law_777 : decode b_Law_law 777 = .ok (.iload_n 3, 1) := by decide +kernel
theorem d_Law_law_778 : decode b_Law_law 778 = .ok (.iconst 2, 1) := by decide +kernel
theorem d_Law_law_779 : decode b_Law_law 779 = .ok (.iadd, 1) := by decide +kernel
theorem d_Law_law_780 : decode b_Law_law 780 = .ok (.iaload, 1) := by decide +kernel
theorem d_Law_law_781 : decode b_Law_law 781 = .ok (.i2l, 1) := by decide +kernel
theorem d_Law_law_782 : decode b_Law_law 782 = .ok (.bipush 32, 2) := by decide +kernel
theorem d_Law_law_784 : decode b_Law_law 784 = .ok (.lshl, 1) := by decide +kernel
theorem d_Law_law_785 : decode b_Law_law 785 = .ok (.aload_n 0, 1) := by decide +kernel
theorem d_Law_law_786 : decode b_Law_law 786 = .ok (.iload_n 3, 1) := by decide +kernel
theorem d_Law_law_787 : decode b_Law_law 787 = .ok (.iconst 3, 1) := by decide +kernel
theorem d_Law_law_788 : decode b_Law_law 788 = .ok (.iadd, 1) := by decide +kernel
theorem d_Law_law_789 : decode b_Law_law 789 = .ok (.iaload, 1) := by decide +kernel
theorem d_Law_law_790 : decode b_Law_law 790 = .ok (.i2l, 1) := by decide +kernel
theorem d_Law_law_791 : decode b_Law_law 791 = .ok (.ldc2_w 18, 3) := by decide +kernel
theorem d_Law_law_794 : decode b_Law_law 794 = .ok (.land, 1) := by decide +kernel
theorem d_Law_law_795 : decode b_Law_law 795 = .ok (.lor, 1) := by decide +kernel
theorem d_Law_law_796 : decode b_Law_law 796 = .ok (.aload_n 0, 1) := by decide +kernel
theorem d_Law_law_797 : decode b_Law_law 797 = .ok (.iload_n 3, 1) := by decide +kernel
theorem d_Law_law_798 : decode b_Law_law 798 = .ok (.iconst 4, 1) := by decide +kernel
theorem d_Law_law_799 : decode b_Law_law 799 = .ok (.iadd, 1) := by decide +kernel
theorem d_Law_law_800 : decode b_Law_law 800 = .ok (.iaload, 1) := by decide +kernel
theorem d_Law_law_801 : decode b_Law_law 801 = .ok (.i2l, 1) := by decide +kernel
theorem d_Law_law_802 : decode b_Law_law 802 = .ok (.bipush 32, 2) := by decide +kernel
theorem d_Law_law_804 : decode b_Law_law 804 = .ok (.lshl, 1) := by decide +kernel
theorem d_Law_law_805 : decode b_Law_law 805 = .ok (.aload_n 0, 1) := by decide +kernel
theorem d_Law_law_806 : decode b_Law_law 806 = .ok (.iload_n 3, 1) := by decide +kernel
theorem d_Law_law_807 : decode b_Law_law 807 = .ok (.iconst 5, 1) := by decide +kernel
theorem d_Law_law_808 : decode b_Law_law 808 = .ok (.iadd, 1) := by decide +kernel
theorem d_Law_law_809 : decode b_Law_law 809 = .ok (.iaload, 1) := by decide +kernel
theorem d_Law_law_810 : decode b_Law_law 810 = .ok (.i2l, 1) := by decide +kernel
theorem d_Law_law_811 : decode b_Law_law 811 = .ok (.ldc2_w 18, 3) := by decide +kernel
theorem d_Law_law_814 : decode b_Law_law 814 = .ok (.land, 1) := by decide +kernel
theorem d_Law_law_815 : decode b_Law_law 815 = .ok (.lor, 1) := by decide +kernel
theorem d_Law_law_816 : decode b_Law_law 816 = .ok (.invokevirtual 90, 3) := by decide +kernel
theorem d_Law_law_819 : decode b_Law_law 819 = .ok (.aload_n 2, 1) := by decide +kernel
theorem d_Law_law_820 : decode b_Law_law 820 = .ok (.aload_n 0, 1) := by decide +kernel
theorem d_Law_law_821 : decode b_Law_law 821 = .ok (.iload_n 3, 1) := by decide +kernel
theorem d_Law_law_822 : decode b_Law_law 822 = .ok (.iconst 1, 1) := by decide +kernel
theorem d_Law_law_823 : decode b_Law_law 823 = .ok (.iadd, 1) := by decide +kernel
theorem d_Law_law_824 : decode b_Law_law 824 = .ok (.iaload, 1) := by decide +kernel
theorem d_Law_law_825 : decode b_Law_law 825 = .ok (.aload_n 0, 1) := by decide +kernel
theorem d_Law_law_826 : decode b_Law_law 826 = .ok (.iload_n 3, 1) := by decide +kernel
theorem d_Law_law_827 : decode b_Law_law 827 = .ok (.iconst 2, 1) := by decide +kernel
theorem d_Law_law_828 : decode b_Law_law 828 = .ok (.iadd, 1) := by decide +kernel
theorem d_Law_law_829 : decode b_Law_law 829 = .ok (.iaload, 1) := by decide +kernel
theorem d_Law_law_830 : decode b_Law_law 830 = .ok (.i2l, 1) := by decide +kernel
theorem d_Law_law_831 : decode b_Law_law 831 = .ok (.bipush 32, 2) := by decide +kernel
theorem d_Law_law_833 : decode b_Law_law 833 = .ok (.lshl, 1) := by decide +kernel
theorem d_Law_law_834 : decode b_Law_law 834 = .ok (.aload_n 0, 1) := by decide +kernel
theorem d_Law_law_835 : decode b_Law_law 835 = .ok (.iload_n 3, 1) := by decide +kernel
theorem d_Law_law_836 : decode b_Law_law 836 = .ok (.iconst 3, 1) := by decide +kernel
theorem d_Law_law_837 : decode b_Law_law 837 = .ok (.iadd, 1) := by decide +kernel
theorem d_Law_law_838 : decode b_Law_law 838 = .ok (.iaload, 1) := by decide +kernel
theorem d_Law_law_839 : decode b_Law_law 839 = .ok (.i2l, 1) := by decide +kernel
theorem d_Law_law_840 : decode b_Law_law 840 = .ok (.ldc2_w 18, 3) := by decide +kernel
theorem d_Law_law_843 : decode b_Law_law 843 = .ok (.land, 1) := by decide +kernel
theorem d_Law_law_844 : decode b_Law_law 844 = .ok (.lor, 1) := by decide +kernel
theorem d_Law_law_845 : decode b_Law_law 845 = .ok (.aload_n 0, 1) := by decide +kernel
theorem d_Law_law_846 : decode b_Law_law 846 = .ok (.iload_n 3, 1) := by decide +kernel
theorem d_Law_law_847 : decode b_Law_law 847 = .ok (.iconst 4, 1) := by decide +kernel
theorem d_Law_law_848 : decode b_Law_law 848 = .ok (.iadd, 1) := by decide +kernel
theorem d_Law_law_849 : decode b_Law_law 849 = .ok (.iaload, 1) := by decide +kernel
theorem d_Law_law_850 : decode b_Law_law 850 = .ok (.i2l, 1) := by decide +kernel
theorem d_Law_law_851 : decode b_Law_law 851 = .ok (.bipush 32, 2) := by decide +kernel
theorem d_Law_law_853 : decode b_Law_law 853 = .ok (.lshl, 1) := by decide +kernel
theorem d_Law_law_854 : decode b_Law_law 854 = .ok (.aload_n 0, 1) := by decide +kernel
theorem d_Law_law_855 : decode b_Law_law 855 = .ok (.iload_n 3, 1) := by decide +kernel
theorem d_Law_law_856 : decode b_Law_law 856 = .ok (.iconst 5, 1) := by decide +kernel
theorem d_Law_law_857 : decode b_Law_law 857 = .ok (.iadd, 1) := by decide +kernel
theorem d_Law_law_858 : decode b_Law_law 858 = .ok (.iaload, 1) := by decide +kernel
theorem d_Law_law_859 : decode b_Law_law 859 = .ok (.i2l, 1) := by decide +kernel
theorem d_Law_law_860 : decode b_Law_law 860 = .ok (.ldc2_w 18, 3) := by decide +kernel
theorem d_Law_law_863 : decode b_Law_law 863 = .ok (.land, 1) := by decide +kernel
theorem d_Law_law_864 : decode b_Law_law 864 = .ok (.lor, 1) := by decide +kernel
theorem d_Law_law_865 : decode b_Law_law 865 = .ok (.invokevirtual 94, 3) := by decide +kernel
theorem d_Law_law_868 : decode b_Law_law 868 = .ok (.if_icmp .eq 79, 3) := by decide +kernel
theorem d_Law_law_871 : decode b_Law_law 871 = .ok (.iconst 0, 1) := by decide +kernel
theorem d_Law_law_872 : decode b_Law_law 872 = .ok (.ireturn, 1) := by decide +kernel
theorem d_Law_law_873 : decode b_Law_law 873 = .ok (.aload_n 1, 1) := by decide +kernel
theorem d_Law_law_874 : decode b_Law_law 874 = .ok (.aload_n 0, 1) := by decide +kernel
theorem d_Law_law_875 : decode b_Law_law 875 = .ok (.iload_n 3, 1) := by decide +kernel
theorem d_Law_law_876 : decode b_Law_law 876 = .ok (.iconst 1, 1) := by decide +kernel
theorem d_Law_law_877 : decode b_Law_law 877 = .ok (.iadd, 1) := by decide +kernel
theorem d_Law_law_878 : decode b_Law_law 878 = .ok (.iaload, 1) := by decide +kernel
theorem d_Law_law_879 : decode b_Law_law 879 = .ok (.aload_n 0, 1) := by decide +kernel
theorem d_Law_law_880 : decode b_Law_law 880 = .ok (.iload_n 3, 1) := by decide +kernel
theorem d_Law_law_881 : decode b_Law_law 881 = .ok (.iconst 2, 1) := by decide +kernel
theorem d_Law_law_882 : decode b_Law_law 882 = .ok (.iadd, 1) := by decide +kernel
theorem d_Law_law_883 : decode b_Law_law 883 = .ok (.iaload, 1) := by decide +kernel
theorem d_Law_law_884 : decode b_Law_law 884 = .ok (.i2l, 1) := by decide +kernel
theorem d_Law_law_885 : decode b_Law_law 885 = .ok (.bipush 32, 2) := by decide +kernel
theorem d_Law_law_887 : decode b_Law_law 887 = .ok (.lshl, 1) := by decide +kernel
theorem d_Law_law_888 : decode b_Law_law 888 = .ok (.aload_n 0, 1) := by decide +kernel
theorem d_Law_law_889 : decode b_Law_law 889 = .ok (.iload_n 3, 1) := by decide +kernel
theorem d_Law_law_890 : decode b_Law_law 890 = .ok (.iconst 3, 1) := by decide +kernel
theorem d_Law_law_891 : decode b_Law_law 891 = .ok (.iadd, 1) := by decide +kernel
theorem d_Law_law_892 : decode b_Law_law 892 = .ok (.iaload, 1) := by decide +kernel
theorem d_Law_law_893 : decode b_Law_law 893 = .ok (.i2l, 1) := by decide +kernel
theorem d_Law_law_894 : decode b_Law_law 894 = .ok (.ldc2_w 18, 3) := by decide +kernel
theorem d_Law_law_897 : decode b_Law_law 897 = .ok (.land, 1) := by decide +kernel
theorem d_Law_law_898 : decode b_Law_law 898 = .ok (.lor, 1) := by decide +kernel
theorem d_Law_law_899 : decode b_Law_law 899 = .ok (.aload_n 0, 1) := by decide +kernel
theorem d_Law_law_900 : decode b_Law_law 900 = .ok (.iload_n 3, 1) := by decide +kernel
theorem d_Law_law_901 : decode b_Law_law 901 = .ok (.iconst 4, 1) := by decide +kernel
theorem d_Law_law_902 : decode b_Law_law 902 = .ok (.iadd, 1) := by decide +kernel
theorem d_Law_law_903 : decode b_Law_law 903 = .ok (.iaload, 1) := by decide +kernel
theorem d_Law_law_904 : decode b_Law_law 904 = .ok (.invokevirtual 95, 3) := by decide +kernel
theorem d_Law_law_907 : decode b_Law_law 907 = .ok (.aload_n 2, 1) := by decide +kernel
theorem d_Law_law_908 : decode b_Law_law 908 = .ok (.aload_n 0, 1) := by decide +kernel
theorem d_Law_law_909 : decode b_Law_law 909 = .ok (.iload_n 3, 1) := by decide +kernel
theorem d_Law_law_910 : decode b_Law_law 910 = .ok (.iconst 1, 1) := by decide +kernel
theorem d_Law_law_911 : decode b_Law_law 911 = .ok (.iadd, 1) := by decide +kernel
theorem d_Law_law_912 : decode b_Law_law 912 = .ok (.iaload, 1) := by decide +kernel
theorem d_Law_law_913 : decode b_Law_law 913 = .ok (.aload_n 0, 1) := by decide +kernel
theorem d_Law_law_914 : decode b_Law_law 914 = .ok (.iload_n 3, 1) := by decide +kernel
theorem d_Law_law_915 : decode b_Law_law 915 = .ok (.iconst 2, 1) := by decide +kernel
theorem d_Law_law_916 : decode b_Law_law 916 = .ok (.iadd, 1) := by decide +kernel
theorem d_Law_law_917 : decode b_Law_law 917 = .ok (.iaload, 1) := by decide +kernel
theorem d_Law_law_918 : decode b_Law_law 918 = .ok (.i2l, 1) := by decide +kernel
theorem d_Law_law_919 : decode b_Law_law 919 = .ok (.bipush 32, 2) := by decide +kernel
theorem d_Law_law_921 : decode b_Law_law 921 = .ok (.lshl, 1) := by decide +kernel
theorem d_Law_law_922 : decode b_Law_law 922 = .ok (.aload_n 0, 1) := by decide +kernel
theorem d_Law_law_923 : decode b_Law_law 923 = .ok (.iload_n 3, 1) := by decide +kernel
theorem d_Law_law_924 : decode b_Law_law 924 = .ok (.iconst 3, 1) := by decide +kernel
theorem d_Law_law_925 : decode b_Law_law 925 = .ok (.iadd, 1) := by decide +kernel
theorem d_Law_law_926 : decode b_Law_law 926 = .ok (.iaload, 1) := by decide +kernel
theorem d_Law_law_927 : decode b_Law_law 927 = .ok (.i2l, 1) := by decide +kernel
theorem d_Law_law_928 : decode b_Law_law 928 = .ok (.ldc2_w 18, 3) := by decide +kernel
theorem d_Law_law_931 : decode b_Law_law 931 = .ok (.land, 1) := by decide +kernel
theorem d_Law_law_932 : decode b_Law_law 932 = .ok (.lor, 1) := by decide +kernel
theorem d_Law_law_933 : decode b_Law_law 933 = .ok (.aload_n 0, 1) := by decide +kernel
theorem d_Law_law_934 : decode b_Law_law 934 = .ok (.iload_n 3, 1) := by decide +kernel
theorem d_Law_law_935 : decode b_Law_law 935 = .ok (.iconst 4, 1) := by decide +kernel
theorem d_Law_law_936 : decode b_Law_law 936 = .ok (.iadd, 1) := by decide +kernel
theorem d_Law_law_937 : decode b_Law_law 937 = .ok (.iaload, 1) := by decide +kernel
theorem d_Law_law_938 : decode b_Law_law 938 = .ok (.invokevirtual 99, 3) := by decide +kernel
theorem d_Law_law_941 : decode b_Law_law 941 = .ok (.lcmp, 1) := by decide +kernel
theorem d_Law_law_942 : decode b_Law_law 942 = .ok (.ifCond .eq 5, 3) := by decide +kernel
theorem d_Law_law_945 : decode b_Law_law 945 = .ok (.iconst 0, 1) := by decide +kernel
theorem d_Law_law_946 : decode b_Law_law 946 = .ok (.ireturn, 1) := by decide +kernel
theorem d_Law_law_947 : decode b_Law_law 947 = .ok (.iinc 3 8, 3) := by decide +kernel
theorem d_Law_law_950 : decode b_Law_law 950 = .ok (.goto (-932), 3) := by decide +kernel
theorem d_Law_law_953 : decode b_Law_law 953 = .ok (.iconst 1, 1) := by decide +kernel
theorem d_Law_law_954 : decode b_Law_law 954 = .ok (.ireturn, 1) := by decide +kernel
def L_Law_law_18 (k131 : gM → Option (Int32 × gM)) (k238 : gM → Option (Int32 × gM)) (k261 : gM → Option (Int32 × gM)) (k294 : gM → Option (Int32 × gM)) (k327 : gM → Option (Int32 × gM)) (k381 : gM → Option (Int32 × gM)) (k424 : gM → Option (Int32 × gM)) (k477 : gM → Option (Int32 × gM)) (k500 : gM → Option (Int32 × gM)) (k523 : gM → Option (Int32 × gM)) (k582 : gM → Option (Int32 × gM)) (k636 : gM → Option (Int32 × gM)) (k679 : gM → Option (Int32 × gM)) (k702 : gM → Option (Int32 × gM)) (k745 : gM → Option (Int32 × gM)) (k768 : gM → Option (Int32 × gM)) (k871 : gM → Option (Int32 × gM)) (k945 : gM → Option (Int32 × gM)) (k953 : gM → Option (Int32 × gM)) : Nat → Option Nat → Option Nat → Option Nat → Int32 → gM → Option (Int32 × gM)
  | 0, _, _, _, _, _ => none
  | f + 1, p0, p1, p2, p3, mm =>
    gb1 (glen p0 mm) fun v17 =>
    if (v17 - (8 : Int32)) < p3 then (
      k953  mm)
    else (
      gb1 (gaI 0 p0 p3 mm) fun v20 =>
      if (v20 &&& (31 : Int32)) = 0 then (
        gb1 (grc 0 p1 mm) fun b43 =>
        gb2 (F_S_teller b43  mm) fun v40 mm41 =>
        gb1 (grc 10 p2 mm41) fun b48 =>
        gb2 (F_M_teller b48  mm41) fun v45 mm46 =>
        if v40 = v45 then (
          gLet (p3 + 8) fun x51 =>
          L_Law_law_18 k131 k238 k261 k294 k327 k381 k424 k477 k500 k523 k582 k636 k679 k702 k745 k768 k871 k945 k953 f p0 p1 p2 x51 mm46)
        else (
          k131  mm46))
      else (
      if (v20 &&& (31 : Int32)) = 1 then (
        gb1 (gaI 0 p0 (p3 + (1 : Int32)) mm) fun v52 =>
        gb1 (gaI 0 p0 (p3 + (2 : Int32)) mm) fun v54 =>
        gb1 (gaI 0 p0 (p3 + (3 : Int32)) mm) fun v56 =>
        gb1 (gaI 0 p0 (p3 + (4 : Int32)) mm) fun v58 =>
        gb1 (gaI 0 p0 (p3 + (5 : Int32)) mm) fun v60 =>
        gb1 (gaI 0 p0 (p3 + (6 : Int32)) mm) fun v62 =>
        gb1 (gaI 0 p0 (p3 + (7 : Int32)) mm) fun v64 =>
        gb1 (grc 0 p1 mm) fun b69 =>
        gb2 (F_S_tell b69 v52 v54 v56 v58 (((v60).toInt64 <<< (((32 : Int32)).toInt64 &&& 63)) ||| ((v62).toInt64 &&& (4294967295 : Int64))) v64 mm) fun v66 mm67 =>
        gb1 (gaI 0 p0 (p3 + (1 : Int32)) mm67) fun v71 =>
        gb1 (gaI 0 p0 (p3 + (2 : Int32)) mm67) fun v73 =>
        gb1 (gaI 0 p0 (p3 + (3 : Int32)) mm67) fun v75 =>
        gb1 (gaI 0 p0 (p3 + (4 : Int32)) mm67) fun v77 =>
        gb1 (gaI 0 p0 (p3 + (5 : Int32)) mm67) fun v79 =>
        gb1 (gaI 0 p0 (p3 + (6 : Int32)) mm67) fun v81 =>
        gb1 (gaI 0 p0 (p3 + (7 : Int32)) mm67) fun v83 =>
        gb1 (grc 10 p2 mm67) fun b88 =>
        gb2 (F_M_tell b88 v71 v73 v75 v77 (((v79).toInt64 <<< (((32 : Int32)).toInt64 &&& 63)) ||| ((v81).toInt64 &&& (4294967295 : Int64))) v83 mm67) fun v85 mm86 =>
        if v66 = v85 then (
          gLet (p3 + 8) fun x91 =>
          L_Law_law_18 k131 k238 k261 k294 k327 k381 k424 k477 k500 k523 k582 k636 k679 k702 k745 k768 k871 k945 k953 f p0 p1 p2 x91 mm86)
        else (
          k238  mm86))
      else (
      if (v20 &&& (31 : Int32)) = 2 then (
        gb1 (gaI 0 p0 (p3 + (1 : Int32)) mm) fun v92 =>
        gb1 (grc 0 p1 mm) fun b97 =>
        gb2 (F_S_set b97 v92 mm) fun v94 mm95 =>
        gb1 (gaI 0 p0 (p3 + (1 : Int32)) mm95) fun v99 =>
        gb1 (grc 10 p2 mm95) fun b104 =>
        gb2 (F_M_set b104 v99 mm95) fun v101 mm102 =>
        if v94 = v101 then (
          gLet (p3 + 8) fun x107 =>
          L_Law_law_18 k131 k238 k261 k294 k327 k381 k424 k477 k500 k523 k582 k636 k679 k702 k745 k768 k871 k945 k953 f p0 p1 p2 x107 mm102)
        else (
          k261  mm102))
      else (
      if (v20 &&& (31 : Int32)) = 3 then (
        gb1 (gaI 0 p0 (p3 + (1 : Int32)) mm) fun v108 =>
        gb1 (gaI 0 p0 (p3 + (2 : Int32)) mm) fun v110 =>
        gb1 (grc 0 p1 mm) fun b115 =>
        gb2 (F_S_join b115 v108 v110 mm) fun v112 mm113 =>
        gb1 (gaI 0 p0 (p3 + (1 : Int32)) mm113) fun v117 =>
        gb1 (gaI 0 p0 (p3 + (2 : Int32)) mm113) fun v119 =>
        gb1 (grc 10 p2 mm113) fun b124 =>
        gb2 (F_M_join b124 v117 v119 mm113) fun v121 mm122 =>
        if v112 = v121 then (
          gLet (p3 + 8) fun x127 =>
          L_Law_law_18 k131 k238 k261 k294 k327 k381 k424 k477 k500 k523 k582 k636 k679 k702 k745 k768 k871 k945 k953 f p0 p1 p2 x127 mm122)
        else (
          k294  mm122))
      else (
      if (v20 &&& (31 : Int32)) = 4 then (
        gb1 (gaI 0 p0 (p3 + (1 : Int32)) mm) fun v128 =>
        gb1 (gaI 0 p0 (p3 + (2 : Int32)) mm) fun v130 =>
        gb1 (grc 0 p1 mm) fun b135 =>
        gb2 (F_S_equal b135 v128 v130 mm) fun v132 mm133 =>
        gb1 (gaI 0 p0 (p3 + (1 : Int32)) mm133) fun v137 =>
        gb1 (gaI 0 p0 (p3 + (2 : Int32)) mm133) fun v139 =>
        gb1 (grc 10 p2 mm133) fun b144 =>
        gb2 (F_M_equal b144 v137 v139 mm133) fun v141 mm142 =>
        if v132 = v141 then (
          gLet (p3 + 8) fun x147 =>
          L_Law_law_18 k131 k238 k261 k294 k327 k381 k424 k477 k500 k523 k582 k636 k679 k702 k745 k768 k871 k945 k953 f p0 p1 p2 x147 mm142)
        else (
          k327  mm142))
      else (
      if (v20 &&& (31 : Int32)) = 5 then (
        gb1 (gaI 0 p0 (p3 + (1 : Int32)) mm) fun v148 =>
        gb1 (gaI 0 p0 (p3 + (2 : Int32)) mm) fun v150 =>
        gb1 (gaI 0 p0 (p3 + (3 : Int32)) mm) fun v152 =>
        gb1 (gaI 0 p0 (p3 + (4 : Int32)) mm) fun v154 =>
        gb1 (grc 0 p1 mm) fun b159 =>
        gb2 (F_S_known b159 v148 v150 v152 v154 mm) fun v156 mm157 =>
        gb1 (gaI 0 p0 (p3 + (1 : Int32)) mm157) fun v161 =>
        gb1 (gaI 0 p0 (p3 + (2 : Int32)) mm157) fun v163 =>
        gb1 (gaI 0 p0 (p3 + (3 : Int32)) mm157) fun v165 =>
        gb1 (gaI 0 p0 (p3 + (4 : Int32)) mm157) fun v167 =>
        gb1 (grc 10 p2 mm157) fun b172 =>
        gb2 (F_M_known b172 v161 v163 v165 v167 mm157) fun v169 mm170 =>
        if v156 = v169 then (
          gLet (p3 + 8) fun x175 =>
          L_Law_law_18 k131 k238 k261 k294 k327 k381 k424 k477 k500 k523 k582 k636 k679 k702 k745 k768 k871 k945 k953 f p0 p1 p2 x175 mm170)
        else (
          k381  mm170))
      else (
      if (v20 &&& (31 : Int32)) = 6 then (
        gb1 (gaI 0 p0 (p3 + (1 : Int32)) mm) fun v176 =>
        gb1 (gaI 0 p0 (p3 + (2 : Int32)) mm) fun v178 =>
        gb1 (gaI 0 p0 (p3 + (3 : Int32)) mm) fun v180 =>
        gb1 (grc 0 p1 mm) fun b185 =>
        gb2 (F_S_conflict b185 v176 v178 v180 mm) fun v182 mm183 =>
        gb1 (gaI 0 p0 (p3 + (1 : Int32)) mm183) fun v187 =>
        gb1 (gaI 0 p0 (p3 + (2 : Int32)) mm183) fun v189 =>
        gb1 (gaI 0 p0 (p3 + (3 : Int32)) mm183) fun v191 =>
        gb1 (grc 10 p2 mm183) fun b196 =>
        gb2 (F_M_conflict b196 v187 v189 v191 mm183) fun v193 mm194 =>
        if v182 = v193 then (
          gLet (p3 + 8) fun x199 =>
          L_Law_law_18 k131 k238 k261 k294 k327 k381 k424 k477 k500 k523 k582 k636 k679 k702 k745 k768 k871 k945 k953 f p0 p1 p2 x199 mm194)
        else (
          k424  mm194))
      else (
      if (v20 &&& (31 : Int32)) = 7 then (
        gb1 (gaI 0 p0 (p3 + (1 : Int32)) mm) fun v200 =>
        gb1 (gaI 0 p0 (p3 + (2 : Int32)) mm) fun v202 =>
        gb1 (gaI 0 p0 (p3 + (3 : Int32)) mm) fun v204 =>
        gb1 (gaI 0 p0 (p3 + (4 : Int32)) mm) fun v206 =>
        gb1 (grc 0 p1 mm) fun b211 =>
        gb2 (F_S_settle b211 v200 v202 v204 v206 mm) fun v208 mm209 =>
        gb1 (gaI 0 p0 (p3 + (1 : Int32)) mm209) fun v213 =>
        gb1 (gaI 0 p0 (p3 + (2 : Int32)) mm209) fun v215 =>
        gb1 (gaI 0 p0 (p3 + (3 : Int32)) mm209) fun v217 =>
        gb1 (gaI 0 p0 (p3 + (4 : Int32)) mm209) fun v219 =>
        gb1 (grc 10 p2 mm209) fun b224 =>
        gb2 (F_M_settle b224 v213 v215 v217 v219 mm209) fun v221 mm222 =>
        if v208 = v221 then (
          gLet (p3 + 8) fun x227 =>
          L_Law_law_18 k131 k238 k261 k294 k327 k381 k424 k477 k500 k523 k582 k636 k679 k702 k745 k768 k871 k945 k953 f p0 p1 p2 x227 mm222)
        else (
          k477  mm222))
      else (
      if (v20 &&& (31 : Int32)) = 8 then (
        gb1 (gaI 0 p0 (p3 + (1 : Int32)) mm) fun v228 =>
        gb1 (grc 0 p1 mm) fun b233 =>
        gb2 (F_S_batch b233 v228 mm) fun v230 mm231 =>
        gb1 (gaI 0 p0 (p3 + (1 : Int32)) mm231) fun v235 =>
        gb1 (grc 10 p2 mm231) fun b240 =>
        gb2 (F_M_batch b240 v235 mm231) fun v237 mm238 =>
        if v230 = v237 then (
          gLet (p3 + 8) fun x243 =>
          L_Law_law_18 k131 k238 k261 k294 k327 k381 k424 k477 k500 k523 k582 k636 k679 k702 k745 k768 k871 k945 k953 f p0 p1 p2 x243 mm238)
        else (
          k500  mm238))
      else (
      if (v20 &&& (31 : Int32)) = 9 then (
        gb1 (gaI 0 p0 (p3 + (1 : Int32)) mm) fun v244 =>
        gb1 (grc 0 p1 mm) fun b249 =>
        gb2 (F_S_endBatch b249 v244 mm) fun v246 mm247 =>
        gb1 (gaI 0 p0 (p3 + (1 : Int32)) mm247) fun v251 =>
        gb1 (grc 10 p2 mm247) fun b256 =>
        gb2 (F_M_endBatch b256 v251 mm247) fun v253 mm254 =>
        if v246 = v253 then (
          gLet (p3 + 8) fun x259 =>
          L_Law_law_18 k131 k238 k261 k294 k327 k381 k424 k477 k500 k523 k582 k636 k679 k702 k745 k768 k871 k945 k953 f p0 p1 p2 x259 mm254)
        else (
          k523  mm254))
      else (
      if (v20 &&& (31 : Int32)) = 10 then (
        gb1 (gaI 0 p0 (p3 + (1 : Int32)) mm) fun v260 =>
        gb1 (gaI 0 p0 (p3 + (2 : Int32)) mm) fun v262 =>
        gb1 (gaI 0 p0 (p3 + (3 : Int32)) mm) fun v264 =>
        gLet (fun (p0 : Option Nat) (p1 : Option Nat) (p2 : Option Nat) (p3 : Int32) (q0 : Int32) (q1 : Int32) (q2 : Int32) (q3 : Option Nat) (mm : gM) =>
          gb1 (grc 0 q3 mm) fun b269 =>
          gb2 (F_S_right b269 q2 q1 q0 mm) fun v266 mm267 =>
          gb1 (gaI 0 p0 (p3 + (1 : Int32)) mm267) fun v271 =>
          gb1 (gaI 0 p0 (p3 + (2 : Int32)) mm267) fun v273 =>
          gb1 (gaI 0 p0 (p3 + (3 : Int32)) mm267) fun v275 =>
          if v275 = 0 then (
            gb1 (grc 10 p2 mm267) fun b281 =>
            gb2 (F_M_right b281 v271 v273 (0 : Int32) mm267) fun v278 mm279 =>
            if v266 = v278 then (
              gLet (p3 + 8) fun x284 =>
              L_Law_law_18 k131 k238 k261 k294 k327 k381 k424 k477 k500 k523 k582 k636 k679 k702 k745 k768 k871 k945 k953 f p0 p1 p2 x284 mm279)
            else (
              k582  mm279))
          else (
            gb1 (grc 10 p2 mm267) fun b288 =>
            gb2 (F_M_right b288 v271 v273 (1 : Int32) mm267) fun v285 mm286 =>
            if v266 = v285 then (
              gLet (p3 + 8) fun x291 =>
              L_Law_law_18 k131 k238 k261 k294 k327 k381 k424 k477 k500 k523 k582 k636 k679 k702 k745 k768 k871 k945 k953 f p0 p1 p2 x291 mm286)
            else (
              k582  mm286))) fun J549 =>
        if v264 = 0 then (
          J549 p0 p1 p2 p3 (0 : Int32) v262 v260 p1 mm)
        else (
          J549 p0 p1 p2 p3 (1 : Int32) v262 v260 p1 mm))
      else (
      if (v20 &&& (31 : Int32)) = 11 then (
        gb1 (gaI 0 p0 (p3 + (1 : Int32)) mm) fun v293 =>
        gb1 (gaI 0 p0 (p3 + (2 : Int32)) mm) fun v295 =>
        gb1 (gaI 0 p0 (p3 + (3 : Int32)) mm) fun v297 =>
        gb1 (gaI 0 p0 (p3 + (4 : Int32)) mm) fun v299 =>
        gb1 (grc 0 p1 mm) fun b304 =>
        gb2 (F_S_seen b304 v293 v295 v297 v299 mm) fun v301 mm302 =>
        gb1 (gaI 0 p0 (p3 + (1 : Int32)) mm302) fun v306 =>
        gb1 (gaI 0 p0 (p3 + (2 : Int32)) mm302) fun v308 =>
        gb1 (gaI 0 p0 (p3 + (3 : Int32)) mm302) fun v310 =>
        gb1 (gaI 0 p0 (p3 + (4 : Int32)) mm302) fun v312 =>
        gb1 (grc 10 p2 mm302) fun b317 =>
        gb2 (F_M_seen b317 v306 v308 v310 v312 mm302) fun v314 mm315 =>
        if v301 = v314 then (
          gLet (p3 + 8) fun x320 =>
          L_Law_law_18 k131 k238 k261 k294 k327 k381 k424 k477 k500 k523 k582 k636 k679 k702 k745 k768 k871 k945 k953 f p0 p1 p2 x320 mm315)
        else (
          k636  mm315))
      else (
      if (v20 &&& (31 : Int32)) = 12 then (
        gb1 (gaI 0 p0 (p3 + (1 : Int32)) mm) fun v321 =>
        gb1 (gaI 0 p0 (p3 + (2 : Int32)) mm) fun v323 =>
        gb1 (gaI 0 p0 (p3 + (3 : Int32)) mm) fun v325 =>
        gb1 (grc 0 p1 mm) fun b330 =>
        gb2 (F_S_block b330 v321 v323 v325 mm) fun v327 mm328 =>
        gb1 (gaI 0 p0 (p3 + (1 : Int32)) mm328) fun v332 =>
        gb1 (gaI 0 p0 (p3 + (2 : Int32)) mm328) fun v334 =>
        gb1 (gaI 0 p0 (p3 + (3 : Int32)) mm328) fun v336 =>
        gb1 (grc 10 p2 mm328) fun b341 =>
        gb2 (F_M_block b341 v332 v334 v336 mm328) fun v338 mm339 =>
        if v327 = v338 then (
          gLet (p3 + 8) fun x344 =>
          L_Law_law_18 k131 k238 k261 k294 k327 k381 k424 k477 k500 k523 k582 k636 k679 k702 k745 k768 k871 k945 k953 f p0 p1 p2 x344 mm339)
        else (
          k679  mm339))
      else (
      if (v20 &&& (31 : Int32)) = 13 then (
        gb1 (gaI 0 p0 (p3 + (1 : Int32)) mm) fun v345 =>
        gb1 (grc 0 p1 mm) fun b350 =>
        gb2 (F_S_number b350 v345 mm) fun v347 mm348 =>
        gb1 (gaI 0 p0 (p3 + (1 : Int32)) mm348) fun v352 =>
        gb1 (grc 10 p2 mm348) fun b357 =>
        gb2 (F_M_number b357 v352 mm348) fun v354 mm355 =>
        if v347 = v354 then (
          gLet (p3 + 8) fun x360 =>
          L_Law_law_18 k131 k238 k261 k294 k327 k381 k424 k477 k500 k523 k582 k636 k679 k702 k745 k768 k871 k945 k953 f p0 p1 p2 x360 mm355)
        else (
          k702  mm355))
      else (
      if (v20 &&& (31 : Int32)) = 14 then (
        gb1 (gaI 0 p0 (p3 + (1 : Int32)) mm) fun v361 =>
        gb1 (gaI 0 p0 (p3 + (2 : Int32)) mm) fun v363 =>
        gb1 (gaI 0 p0 (p3 + (3 : Int32)) mm) fun v365 =>
        gb1 (grc 0 p1 mm) fun b370 =>
        gb2 (F_S_lost b370 v361 v363 v365 mm) fun v367 mm368 =>
        gb1 (gaI 0 p0 (p3 + (1 : Int32)) mm368) fun v372 =>
        gb1 (gaI 0 p0 (p3 + (2 : Int32)) mm368) fun v374 =>
        gb1 (gaI 0 p0 (p3 + (3 : Int32)) mm368) fun v376 =>
        gb1 (grc 10 p2 mm368) fun b381 =>
        gb2 (F_M_lost b381 v372 v374 v376 mm368) fun v378 mm379 =>
        if v367 = v378 then (
          gLet (p3 + 8) fun x384 =>
          L_Law_law_18 k131 k238 k261 k294 k327 k381 k424 k477 k500 k523 k582 k636 k679 k702 k745 k768 k871 k945 k953 f p0 p1 p2 x384 mm379)
        else (
          k745  mm379))
      else (
      if (v20 &&& (31 : Int32)) = 15 then (
        gb1 (gaI 0 p0 (p3 + (1 : Int32)) mm) fun v385 =>
        gb1 (grc 0 p1 mm) fun b390 =>
        gb2 (F_S_close b390 v385 mm) fun v387 mm388 =>
        gb1 (gaI 0 p0 (p3 + (1 : Int32)) mm388) fun v392 =>
        gb1 (grc 10 p2 mm388) fun b397 =>
        gb2 (F_M_close b397 v392 mm388) fun v394 mm395 =>
        if v387 = v394 then (
          gLet (p3 + 8) fun x400 =>
          L_Law_law_18 k131 k238 k261 k294 k327 k381 k424 k477 k500 k523 k582 k636 k679 k702 k745 k768 k871 k945 k953 f p0 p1 p2 x400 mm395)
        else (
          k768  mm395))
      else (
      if (v20 &&& (31 : Int32)) = 16 then (
        gb1 (gaI 0 p0 (p3 + (1 : Int32)) mm) fun v401 =>
        gb1 (gaI 0 p0 (p3 + (2 : Int32)) mm) fun v403 =>
        gb1 (gaI 0 p0 (p3 + (3 : Int32)) mm) fun v405 =>
        gb1 (gaI 0 p0 (p3 + (4 : Int32)) mm) fun v407 =>
        gb1 (gaI 0 p0 (p3 + (5 : Int32)) mm) fun v409 =>
        gb1 (grc 0 p1 mm) fun b414 =>
        gb2 (F_S_mark b414 v401 (((v403).toInt64 <<< (((32 : Int32)).toInt64 &&& 63)) ||| ((v405).toInt64 &&& (4294967295 : Int64))) (((v407).toInt64 <<< (((32 : Int32)).toInt64 &&& 63)) ||| ((v409).toInt64 &&& (4294967295 : Int64))) mm) fun v411 mm412 =>
        gb1 (gaI 0 p0 (p3 + (1 : Int32)) mm412) fun v416 =>
        gb1 (gaI 0 p0 (p3 + (2 : Int32)) mm412) fun v418 =>
        gb1 (gaI 0 p0 (p3 + (3 : Int32)) mm412) fun v420 =>
        gb1 (gaI 0 p0 (p3 + (4 : Int32)) mm412) fun v422 =>
        gb1 (gaI 0 p0 (p3 + (5 : Int32)) mm412) fun v424 =>
        gb1 (grc 10 p2 mm412) fun b429 =>
        gb2 (F_M_mark b429 v416 (((v418).toInt64 <<< (((32 : Int32)).toInt64 &&& 63)) ||| ((v420).toInt64 &&& (4294967295 : Int64))) (((v422).toInt64 <<< (((32 : Int32)).toInt64 &&& 63)) ||| ((v424).toInt64 &&& (4294967295 : Int64))) mm412) fun v426 mm427 =>
        if v411 = v426 then (
          gLet (p3 + 8) fun x432 =>
          L_Law_law_18 k131 k238 k261 k294 k327 k381 k424 k477 k500 k523 k582 k636 k679 k702 k745 k768 k871 k945 k953 f p0 p1 p2 x432 mm427)
        else (
          k871  mm427))
      else (
      if (v20 &&& (31 : Int32)) = 17 then (
        gb1 (gaI 0 p0 (p3 + (1 : Int32)) mm) fun v433 =>
        gb1 (gaI 0 p0 (p3 + (2 : Int32)) mm) fun v435 =>
        gb1 (gaI 0 p0 (p3 + (3 : Int32)) mm) fun v437 =>
        gb1 (gaI 0 p0 (p3 + (4 : Int32)) mm) fun v439 =>
        gb1 (grc 0 p1 mm) fun b444 =>
        gb2 (F_S_corrected b444 v433 (((v435).toInt64 <<< (((32 : Int32)).toInt64 &&& 63)) ||| ((v437).toInt64 &&& (4294967295 : Int64))) v439 mm) fun v441 mm442 =>
        gb1 (gaI 0 p0 (p3 + (1 : Int32)) mm442) fun v446 =>
        gb1 (gaI 0 p0 (p3 + (2 : Int32)) mm442) fun v448 =>
        gb1 (gaI 0 p0 (p3 + (3 : Int32)) mm442) fun v450 =>
        gb1 (gaI 0 p0 (p3 + (4 : Int32)) mm442) fun v452 =>
        gb1 (grc 10 p2 mm442) fun b457 =>
        gb2 (F_M_corrected b457 v446 (((v448).toInt64 <<< (((32 : Int32)).toInt64 &&& 63)) ||| ((v450).toInt64 &&& (4294967295 : Int64))) v452 mm442) fun v454 mm455 =>
        if v441 = v454 then (
          gLet (p3 + 8) fun x460 =>
          L_Law_law_18 k131 k238 k261 k294 k327 k381 k424 k477 k500 k523 k582 k636 k679 k702 k745 k768 k871 k945 k953 f p0 p1 p2 x460 mm455)
        else (
          k945  mm455))
      else (
      gLet (p3 + 8) fun x461 =>
      L_Law_law_18 k131 k238 k261 k294 k327 k381 k424 k477 k500 k523 k582 k636 k679 k702 k745 k768 k871 k945 k953 f p0 p1 p2 x461 mm)))))))))))))))))))
set_option maxHeartbeats 4000000 in
set_option maxRecDepth 100000 in
theorem wL_Law_law_18 {l : Launch} {E : gD} {n0 s0 : Nat} {r : Int32} {res : gM} {k131 : gM → Option (Int32 × gM)} {k238 : gM → Option (Int32 × gM)} {k261 : gM → Option (Int32 × gM)} {k294 : gM → Option (Int32 × gM)} {k327 : gM → Option (Int32 × gM)} {k381 : gM → Option (Int32 × gM)} {k424 : gM → Option (Int32 × gM)} {k477 : gM → Option (Int32 × gM)} {k500 : gM → Option (Int32 × gM)} {k523 : gM → Option (Int32 × gM)} {k582 : gM → Option (Int32 × gM)} {k636 : gM → Option (Int32 × gM)} {k679 : gM → Option (Int32 × gM)} {k702 : gM → Option (Int32 × gM)} {k745 : gM → Option (Int32 × gM)} {k768 : gM → Option (Int32 × gM)} {k871 : gM → Option (Int32 × gM)} {k945 : gM → Option (Int32 × gM)} {k953 : gM → Option (Int32 × gM)} (hk131 : ∀  (mm : gM), k131  mm = some (r, res) → xX l E Y_Law_law n0 s0 (some (.int r)) res 131 [] [] mm) (hk238 : ∀  (mm : gM), k238  mm = some (r, res) → xX l E Y_Law_law n0 s0 (some (.int r)) res 238 [] [] mm) (hk261 : ∀  (mm : gM), k261  mm = some (r, res) → xX l E Y_Law_law n0 s0 (some (.int r)) res 261 [] [] mm) (hk294 : ∀  (mm : gM), k294  mm = some (r, res) → xX l E Y_Law_law n0 s0 (some (.int r)) res 294 [] [] mm) (hk327 : ∀  (mm : gM), k327  mm = some (r, res) → xX l E Y_Law_law n0 s0 (some (.int r)) res 327 [] [] mm) (hk381 : ∀  (mm : gM), k381  mm = some (r, res) → xX l E Y_Law_law n0 s0 (some (.int r)) res 381 [] [] mm) (hk424 : ∀  (mm : gM), k424  mm = some (r, res) → xX l E Y_Law_law n0 s0 (some (.int r)) res 424 [] [] mm) (hk477 : ∀  (mm : gM), k477  mm = some (r, res) → xX l E Y_Law_law n0 s0 (some (.int r)) res 477 [] [] mm) (hk500 : ∀  (mm : gM), k500  mm = some (r, res) → xX l E Y_Law_law n0 s0 (some (.int r)) res 500 [] [] mm) (hk523 : ∀  (mm : gM), k523  mm = some (r, res) → xX l E Y_Law_law n0 s0 (some (.int r)) res 523 [] [] mm) (hk582 : ∀  (mm : gM), k582  mm = some (r, res) → xX l E Y_Law_law n0 s0 (some (.int r)) res 582 [] [] mm) (hk636 : ∀  (mm : gM), k636  mm = some (r, res) → xX l E Y_Law_law n0 s0 (some (.int r)) res 636 [] [] mm) (hk679 : ∀  (mm : gM), k679  mm = some (r, res) → xX l E Y_Law_law n0 s0 (some (.int r)) res 679 [] [] mm) (hk702 : ∀  (mm : gM), k702  mm = some (r, res) → xX l E Y_Law_law n0 s0 (some (.int r)) res 702 [] [] mm) (hk745 : ∀  (mm : gM), k745  mm = some (r, res) → xX l E Y_Law_law n0 s0 (some (.int r)) res 745 [] [] mm) (hk768 : ∀  (mm : gM), k768  mm = some (r, res) → xX l E Y_Law_law n0 s0 (some (.int r)) res 768 [] [] mm) (hk871 : ∀  (mm : gM), k871  mm = some (r, res) → xX l E Y_Law_law n0 s0 (some (.int r)) res 871 [] [] mm) (hk945 : ∀  (mm : gM), k945  mm = some (r, res) → xX l E Y_Law_law n0 s0 (some (.int r)) res 945 [] [] mm) (hk953 : ∀  (mm : gM), k953  mm = some (r, res) → xX l E Y_Law_law n0 s0 (some (.int r)) res 953 [] [] mm) : ∀ (f : Nat) (p0 : Option Nat) (p1 : Option Nat) (p2 : Option Nat) (p3 : Int32) (mm : gM), L_Law_law_18 k131 k238 k261 k294 k327 k381 k424 k477 k500 k523 k582 k636 k679 k702 k745 k768 k871 k945 k953 f p0 p1 p2 p3 mm = some (r, res) → xX l E Y_Law_law n0 s0 (some (.int r)) res 18 [(0, .inr (.inr p0)), (1, .inr (.inr p1)), (2, .inr (.inr p2)), (3, .inl p3)] [] mm := by
  intro f
  induction f with
  | zero =>
    intro p0 p1 p2 p3 mm h
    rw [L_Law_law_18] at h
    cases h
  | succ f ih =>
    intro p0 p1 p2 p3 mm h
    rw [L_Law_law_18] at h
    refine x_iloadn 18 3 d_Law_law_18 rfl rfl ?_
    refine x_aloadn 19 0 d_Law_law_19 rfl rfl ?_
    replace h := gb1_elim h; obtain ⟨v17, h18, h⟩ := h
    refine x_alen 20 h18 d_Law_law_20 ?_
    refine x_bipush 21 d_Law_law_21 (v := (8 : Int32)) (by decide +kernel) ?_
    refine x_isub 23 d_Law_law_23 ?_
    refine x_icmp_gt 24 953 d_Law_law_24 (by decide) (fun c19 => ?_) (fun c19 => ?_)
    · replace h := gif_t h c19
      refine x_sub [] rfl ?_
      exact hk953 _ h
    · replace h := gif_f h c19
      refine x_aloadn 27 0 d_Law_law_27 rfl rfl ?_
      refine x_iloadn 28 3 d_Law_law_28 rfl rfl ?_
      replace h := gb1_elim h; obtain ⟨v20, h21, h⟩ := h
      refine x_iald 29 rfl h21 d_Law_law_29 ?_
      refine x_bipush 30 d_Law_law_30 (v := (31 : Int32)) (by decide +kernel) ?_
      refine x_iand 32 d_Law_law_32 ?_
      by_cases c22 : (v20 &&& (31 : Int32)) = 0
      · replace h := gif_t h c22
        refine x_tsIn 33 120 0 (off := 87) c22 d_Law_law_33 (by decide +kernel) (by decide +kernel) (by decide +kernel) (by decide) ?_
        refine x_aloadn 120 1 d_Law_law_120 rfl rfl ?_
        replace h := gb1_elim h; obtain ⟨b43, h44, h⟩ := h
        replace h := gb2_elim h; obtain ⟨v40, mm41, h42, h⟩ := h
        refine x_callV 121 0 (as := []) (st' := []) (rs := [.inl v40]) (k_S_teller h42) rfl cf_Law_13 ⟨rfl, by decide +kernel, by decide, by decide, Nat.le_of_ble_eq_true rfl⟩ h44 rfl d_Law_law_121 ?_
        refine x_aloadn 124 2 d_Law_law_124 rfl rfl ?_
        replace h := gb1_elim h; obtain ⟨b48, h49, h⟩ := h
        replace h := gb2_elim h; obtain ⟨v45, mm46, h47, h⟩ := h
        refine x_callV 125 0 (as := []) (st' := [.inl v40]) (rs := [.inl v45]) (k_M_teller h47) rfl cf_Law_17 ⟨rfl, by decide +kernel, by decide, by decide, Nat.le_of_ble_eq_true rfl⟩ h49 rfl d_Law_law_125 ?_
        refine x_icmp_eq 128 947 d_Law_law_128 (by decide) (fun c50 => ?_) (fun c50 => ?_)
        · replace h := gif_t h c50
          replace h := gLet_elim h; obtain ⟨x51, ex51, h⟩ := h
          refine x_iinc 947 3 (v := x51) (lv' := [(3, .inl x51), (0, .inr (.inr p0)), (1, .inr (.inr p1)), (2, .inr (.inr p2))]) d_Law_law_947 rfl (by rw [ex51]; rfl) (by decide) rfl ?_
          refine x_goto 950 18 d_Law_law_950 (by decide) ?_
          refine x_sub [1, 2, 3, 0] rfl ?_
          exact ih _ _ _ _ _ h
        · replace h := gif_f h c50
          refine x_sub [] rfl ?_
          exact hk131 _ h
      · replace h := gif_f h c22
        by_cases c23 : (v20 &&& (31 : Int32)) = 1
        · replace h := gif_t h c23
          refine x_tsIn 33 133 1 (off := 100) c23 d_Law_law_33 (by decide +kernel) (by decide +kernel) (by decide +kernel) (by decide) ?_
          refine x_aloadn 133 1 d_Law_law_133 rfl rfl ?_
          refine x_aloadn 134 0 d_Law_law_134 rfl rfl ?_
          refine x_iloadn 135 3 d_Law_law_135 rfl rfl ?_
          refine x_iconst 136 d_Law_law_136 (v := (1 : Int32)) (by decide +kernel) ?_
          refine x_iadd 137 d_Law_law_137 ?_
          replace h := gb1_elim h; obtain ⟨v52, h53, h⟩ := h
          refine x_iald 138 rfl h53 d_Law_law_138 ?_
          refine x_aloadn 139 0 d_Law_law_139 rfl rfl ?_
          refine x_iloadn 140 3 d_Law_law_140 rfl rfl ?_
          refine x_iconst 141 d_Law_law_141 (v := (2 : Int32)) (by decide +kernel) ?_
          refine x_iadd 142 d_Law_law_142 ?_
          replace h := gb1_elim h; obtain ⟨v54, h55, h⟩ := h
          refine x_iald 143 rfl h55 d_Law_law_143 ?_
          refine x_aloadn 144 0 d_Law_law_144 rfl rfl ?_
          refine x_iloadn 145 3 d_Law_law_145 rfl rfl ?_
          refine x_iconst 146 d_Law_law_146 (v := (3 : Int32)) (by decide +kernel) ?_
          refine x_iadd 147 d_Law_law_147 ?_
          replace h := gb1_elim h; obtain ⟨v56, h57, h⟩ := h
          refine x_iald 148 rfl h57 d_Law_law_148 ?_
          refine x_aloadn 149 0 d_Law_law_149 rfl rfl ?_
          refine x_iloadn 150 3 d_Law_law_150 rfl rfl ?_
          refine x_iconst 151 d_Law_law_151 (v := (4 : Int32)) (by decide +kernel) ?_
          refine x_iadd 152 d_Law_law_152 ?_
          replace h := gb1_elim h; obtain ⟨v58, h59, h⟩ := h
          refine x_iald 153 rfl h59 d_Law_law_153 ?_
          refine x_aloadn 154 0 d_Law_law_154 rfl rfl ?_
          refine x_iloadn 155 3 d_Law_law_155 rfl rfl ?_
          refine x_iconst 156 d_Law_law_156 (v := (5 : Int32)) (by decide +kernel) ?_
          refine x_iadd 157 d_Law_law_157 ?_
          replace h := gb1_elim h; obtain ⟨v60, h61, h⟩ := h
          refine x_iald 158 rfl h61 d_Law_law_158 ?_
          refine x_i2l 159 d_Law_law_159 ?_
          refine x_bipush 160 d_Law_law_160 (v := (32 : Int32)) (by decide +kernel) ?_
          refine x_lshl 162 d_Law_law_162 ?_
          refine x_aloadn 163 0 d_Law_law_163 rfl rfl ?_
          refine x_iloadn 164 3 d_Law_law_164 rfl rfl ?_
          refine x_bipush 165 d_Law_law_165 (v := (6 : Int32)) (by decide +kernel) ?_
          refine x_iadd 167 d_Law_law_167 ?_
          replace h := gb1_elim h; obtain ⟨v62, h63, h⟩ := h
          refine x_iald 168 rfl h63 d_Law_law_168 ?_
          refine x_i2l 169 d_Law_law_169 ?_
          refine x_ldc2 170 d_Law_law_170 (v := (4294967295 : Int64)) (gT_in4 79 rfl) ?_
          refine x_land 173 d_Law_law_173 ?_
          refine x_lor 174 d_Law_law_174 ?_
          refine x_aloadn 175 0 d_Law_law_175 rfl rfl ?_
          refine x_iloadn 176 3 d_Law_law_176 rfl rfl ?_
          refine x_bipush 177 d_Law_law_177 (v := (7 : Int32)) (by decide +kernel) ?_
          refine x_iadd 179 d_Law_law_179 ?_
          replace h := gb1_elim h; obtain ⟨v64, h65, h⟩ := h
          refine x_iald 180 rfl h65 d_Law_law_180 ?_
          replace h := gb1_elim h; obtain ⟨b69, h70, h⟩ := h
          replace h := gb2_elim h; obtain ⟨v66, mm67, h68, h⟩ := h
          refine x_callV 181 6 (as := [.inl v52, .inl v54, .inl v56, .inl v58, .inr (.inl (((v60).toInt64 <<< (((32 : Int32)).toInt64 &&& 63)) ||| ((v62).toInt64 &&& (4294967295 : Int64)))), .inl v64]) (st' := []) (rs := [.inl v66]) (k_S_tell h68) rfl cf_Law_20 ⟨rfl, by decide +kernel, by decide, by decide, Nat.le_of_ble_eq_true rfl⟩ h70 rfl d_Law_law_181 ?_
          refine x_aloadn 184 2 d_Law_law_184 rfl rfl ?_
          refine x_aloadn 185 0 d_Law_law_185 rfl rfl ?_
          refine x_iloadn 186 3 d_Law_law_186 rfl rfl ?_
          refine x_iconst 187 d_Law_law_187 (v := (1 : Int32)) (by decide +kernel) ?_
          refine x_iadd 188 d_Law_law_188 ?_
          replace h := gb1_elim h; obtain ⟨v71, h72, h⟩ := h
          refine x_iald 189 rfl h72 d_Law_law_189 ?_
          refine x_aloadn 190 0 d_Law_law_190 rfl rfl ?_
          refine x_iloadn 191 3 d_Law_law_191 rfl rfl ?_
          refine x_iconst 192 d_Law_law_192 (v := (2 : Int32)) (by decide +kernel) ?_
          refine x_iadd 193 d_Law_law_193 ?_
          replace h := gb1_elim h; obtain ⟨v73, h74, h⟩ := h
          refine x_iald 194 rfl h74 d_Law_law_194 ?_
          refine x_aloadn 195 0 d_Law_law_195 rfl rfl ?_
          refine x_iloadn 196 3 d_Law_law_196 rfl rfl ?_
          refine x_iconst 197 d_Law_law_197 (v := (3 : Int32)) (by decide +kernel) ?_
          refine x_iadd 198 d_Law_law_198 ?_
          replace h := gb1_elim h; obtain ⟨v75, h76, h⟩ := h
          refine x_iald 199 rfl h76 d_Law_law_199 ?_
          refine x_aloadn 200 0 d_Law_law_200 rfl rfl ?_
          refine x_iloadn 201 3 d_Law_law_201 rfl rfl ?_
          refine x_iconst 202 d_Law_law_202 (v := (4 : Int32)) (by decide +kernel) ?_
          refine x_iadd 203 d_Law_law_203 ?_
          replace h := gb1_elim h; obtain ⟨v77, h78, h⟩ := h
          refine x_iald 204 rfl h78 d_Law_law_204 ?_
          refine x_aloadn 205 0 d_Law_law_205 rfl rfl ?_
          refine x_iloadn 206 3 d_Law_law_206 rfl rfl ?_
          refine x_iconst 207 d_Law_law_207 (v := (5 : Int32)) (by decide +kernel) ?_
          refine x_iadd 208 d_Law_law_208 ?_
          replace h := gb1_elim h; obtain ⟨v79, h80, h⟩ := h
          refine x_iald 209 rfl h80 d_Law_law_209 ?_
          refine x_i2l 210 d_Law_law_210 ?_
          refine x_bipush 211 d_Law_law_211 (v := (32 : Int32)) (by decide +kernel) ?_
          refine x_lshl 213 d_Law_law_213 ?_
          refine x_aloadn 214 0 d_Law_law_214 rfl rfl ?_
          refine x_iloadn 215 3 d_Law_law_215 rfl rfl ?_
          refine x_bipush 216 d_Law_law_216 (v := (6 : Int32)) (by decide +kernel) ?_
          refine x_iadd 218 d_Law_law_218 ?_
          replace h := gb1_elim h; obtain ⟨v81, h82, h⟩ := h
          refine x_iald 219 rfl h82 d_Law_law_219 ?_
          refine x_i2l 220 d_Law_law_220 ?_
          refine x_ldc2 221 d_Law_law_221 (v := (4294967295 : Int64)) (gT_in4 79 rfl) ?_
          refine x_land 224 d_Law_law_224 ?_
          refine x_lor 225 d_Law_law_225 ?_
          refine x_aloadn 226 0 d_Law_law_226 rfl rfl ?_
          refine x_iloadn 227 3 d_Law_law_227 rfl rfl ?_
          refine x_bipush 228 d_Law_law_228 (v := (7 : Int32)) (by decide +kernel) ?_
          refine x_iadd 230 d_Law_law_230 ?_
          replace h := gb1_elim h; obtain ⟨v83, h84, h⟩ := h
          refine x_iald 231 rfl h84 d_Law_law_231 ?_
          replace h := gb1_elim h; obtain ⟨b88, h89, h⟩ := h
          replace h := gb2_elim h; obtain ⟨v85, mm86, h87, h⟩ := h
          refine x_callV 232 6 (as := [.inl v71, .inl v73, .inl v75, .inl v77, .inr (.inl (((v79).toInt64 <<< (((32 : Int32)).toInt64 &&& 63)) ||| ((v81).toInt64 &&& (4294967295 : Int64)))), .inl v83]) (st' := [.inl v66]) (rs := [.inl v85]) (k_M_tell h87) rfl cf_Law_24 ⟨rfl, by decide +kernel, by decide, by decide, Nat.le_of_ble_eq_true rfl⟩ h89 rfl d_Law_law_232 ?_
          refine x_icmp_eq 235 947 d_Law_law_235 (by decide) (fun c90 => ?_) (fun c90 => ?_)
          · replace h := gif_t h c90
            replace h := gLet_elim h; obtain ⟨x91, ex91, h⟩ := h
            refine x_iinc 947 3 (v := x91) (lv' := [(3, .inl x91), (0, .inr (.inr p0)), (1, .inr (.inr p1)), (2, .inr (.inr p2))]) d_Law_law_947 rfl (by rw [ex91]; rfl) (by decide) rfl ?_
            refine x_goto 950 18 d_Law_law_950 (by decide) ?_
            refine x_sub [1, 2, 3, 0] rfl ?_
            exact ih _ _ _ _ _ h
          · replace h := gif_f h c90
            refine x_sub [] rfl ?_
            exact hk238 _ h
        · replace h := gif_f h c23
          by_cases c24 : (v20 &&& (31 : Int32)) = 2
          · replace h := gif_t h c24
            refine x_tsIn 33 240 2 (off := 207) c24 d_Law_law_33 (by decide +kernel) (by decide +kernel) (by decide +kernel) (by decide) ?_
            refine x_aloadn 240 1 d_Law_law_240 rfl rfl ?_
            refine x_aloadn 241 0 d_Law_law_241 rfl rfl ?_
            refine x_iloadn 242 3 d_Law_law_242 rfl rfl ?_
            refine x_iconst 243 d_Law_law_243 (v := (1 : Int32)) (by decide +kernel) ?_
            refine x_iadd 244 d_Law_law_244 ?_
            replace h := gb1_elim h; obtain ⟨v92, h93, h⟩ := h
            refine x_iald 245 rfl h93 d_Law_law_245 ?_
            replace h := gb1_elim h; obtain ⟨b97, h98, h⟩ := h
            replace h := gb2_elim h; obtain ⟨v94, mm95, h96, h⟩ := h
            refine x_callV 246 1 (as := [.inl v92]) (st' := []) (rs := [.inl v94]) (k_S_set h96) rfl cf_Law_25 ⟨rfl, by decide +kernel, by decide, by decide, Nat.le_of_ble_eq_true rfl⟩ h98 rfl d_Law_law_246 ?_
            refine x_aloadn 249 2 d_Law_law_249 rfl rfl ?_
            refine x_aloadn 250 0 d_Law_law_250 rfl rfl ?_
            refine x_iloadn 251 3 d_Law_law_251 rfl rfl ?_
            refine x_iconst 252 d_Law_law_252 (v := (1 : Int32)) (by decide +kernel) ?_
            refine x_iadd 253 d_Law_law_253 ?_
            replace h := gb1_elim h; obtain ⟨v99, h100, h⟩ := h
            refine x_iald 254 rfl h100 d_Law_law_254 ?_
            replace h := gb1_elim h; obtain ⟨b104, h105, h⟩ := h
            replace h := gb2_elim h; obtain ⟨v101, mm102, h103, h⟩ := h
            refine x_callV 255 1 (as := [.inl v99]) (st' := [.inl v94]) (rs := [.inl v101]) (k_M_set h103) rfl cf_Law_29 ⟨rfl, by decide +kernel, by decide, by decide, Nat.le_of_ble_eq_true rfl⟩ h105 rfl d_Law_law_255 ?_
            refine x_icmp_eq 258 947 d_Law_law_258 (by decide) (fun c106 => ?_) (fun c106 => ?_)
            · replace h := gif_t h c106
              replace h := gLet_elim h; obtain ⟨x107, ex107, h⟩ := h
              refine x_iinc 947 3 (v := x107) (lv' := [(3, .inl x107), (0, .inr (.inr p0)), (1, .inr (.inr p1)), (2, .inr (.inr p2))]) d_Law_law_947 rfl (by rw [ex107]; rfl) (by decide) rfl ?_
              refine x_goto 950 18 d_Law_law_950 (by decide) ?_
              refine x_sub [1, 2, 3, 0] rfl ?_
              exact ih _ _ _ _ _ h
            · replace h := gif_f h c106
              refine x_sub [] rfl ?_
              exact hk261 _ h
          · replace h := gif_f h c24
            by_cases c25 : (v20 &&& (31 : Int32)) = 3
            · replace h := gif_t h c25
              refine x_tsIn 33 263 3 (off := 230) c25 d_Law_law_33 (by decide +kernel) (by decide +kernel) (by decide +kernel) (by decide) ?_
              refine x_aloadn 263 1 d_Law_law_263 rfl rfl ?_
              refine x_aloadn 264 0 d_Law_law_264 rfl rfl ?_
              refine x_iloadn 265 3 d_Law_law_265 rfl rfl ?_
              refine x_iconst 266 d_Law_law_266 (v := (1 : Int32)) (by decide +kernel) ?_
              refine x_iadd 267 d_Law_law_267 ?_
              replace h := gb1_elim h; obtain ⟨v108, h109, h⟩ := h
              refine x_iald 268 rfl h109 d_Law_law_268 ?_
              refine x_aloadn 269 0 d_Law_law_269 rfl rfl ?_
              refine x_iloadn 270 3 d_Law_law_270 rfl rfl ?_
              refine x_iconst 271 d_Law_law_271 (v := (2 : Int32)) (by decide +kernel) ?_
              refine x_iadd 272 d_Law_law_272 ?_
              replace h := gb1_elim h; obtain ⟨v110, h111, h⟩ := h
              refine x_iald 273 rfl h111 d_Law_law_273 ?_
              replace h := gb1_elim h; obtain ⟨b115, h116, h⟩ := h
              replace h := gb2_elim h; obtain ⟨v112, mm113, h114, h⟩ := h
              refine x_callV 274 2 (as := [.inl v108, .inl v110]) (st' := []) (rs := [.inl v112]) (k_S_join h114) rfl cf_Law_30 ⟨rfl, by decide +kernel, by decide, by decide, Nat.le_of_ble_eq_true rfl⟩ h116 rfl d_Law_law_274 ?_
              refine x_aloadn 277 2 d_Law_law_277 rfl rfl ?_
              refine x_aloadn 278 0 d_Law_law_278 rfl rfl ?_
              refine x_iloadn 279 3 d_Law_law_279 rfl rfl ?_
              refine x_iconst 280 d_Law_law_280 (v := (1 : Int32)) (by decide +kernel) ?_
              refine x_iadd 281 d_Law_law_281 ?_
              replace h := gb1_elim h; obtain ⟨v117, h118, h⟩ := h
              refine x_iald 282 rfl h118 d_Law_law_282 ?_
              refine x_aloadn 283 0 d_Law_law_283 rfl rfl ?_
              refine x_iloadn 284 3 d_Law_law_284 rfl rfl ?_
              refine x_iconst 285 d_Law_law_285 (v := (2 : Int32)) (by decide +kernel) ?_
              refine x_iadd 286 d_Law_law_286 ?_
              replace h := gb1_elim h; obtain ⟨v119, h120, h⟩ := h
              refine x_iald 287 rfl h120 d_Law_law_287 ?_
              replace h := gb1_elim h; obtain ⟨b124, h125, h⟩ := h
              replace h := gb2_elim h; obtain ⟨v121, mm122, h123, h⟩ := h
              refine x_callV 288 2 (as := [.inl v117, .inl v119]) (st' := [.inl v112]) (rs := [.inl v121]) (k_M_join h123) rfl cf_Law_34 ⟨rfl, by decide +kernel, by decide, by decide, Nat.le_of_ble_eq_true rfl⟩ h125 rfl d_Law_law_288 ?_
              refine x_icmp_eq 291 947 d_Law_law_291 (by decide) (fun c126 => ?_) (fun c126 => ?_)
              · replace h := gif_t h c126
                replace h := gLet_elim h; obtain ⟨x127, ex127, h⟩ := h
                refine x_iinc 947 3 (v := x127) (lv' := [(3, .inl x127), (0, .inr (.inr p0)), (1, .inr (.inr p1)), (2, .inr (.inr p2))]) d_Law_law_947 rfl (by rw [ex127]; rfl) (by decide) rfl ?_
                refine x_goto 950 18 d_Law_law_950 (by decide) ?_
                refine x_sub [1, 2, 3, 0] rfl ?_
                exact ih _ _ _ _ _ h
              · replace h := gif_f h c126
                refine x_sub [] rfl ?_
                exact hk294 _ h
            · replace h := gif_f h c25
              by_cases c26 : (v20 &&& (31 : Int32)) = 4
              · replace h := gif_t h c26
                refine x_tsIn 33 296 4 (off := 263) c26 d_Law_law_33 (by decide +kernel) (by decide +kernel) (by decide +kernel) (by decide) ?_
                refine x_aloadn 296 1 d_Law_law_296 rfl rfl ?_
                refine x_aloadn 297 0 d_Law_law_297 rfl rfl ?_
                refine x_iloadn 298 3 d_Law_law_298 rfl rfl ?_
                refine x_iconst 299 d_Law_law_299 (v := (1 : Int32)) (by decide +kernel) ?_
                refine x_iadd 300 d_Law_law_300 ?_
                replace h := gb1_elim h; obtain ⟨v128, h129, h⟩ := h
                refine x_iald 301 rfl h129 d_Law_law_301 ?_
                refine x_aloadn 302 0 d_Law_law_302 rfl rfl ?_
                refine x_iloadn 303 3 d_Law_law_303 rfl rfl ?_
                refine x_iconst 304 d_Law_law_304 (v := (2 : Int32)) (by decide +kernel) ?_
                refine x_iadd 305 d_Law_law_305 ?_
                replace h := gb1_elim h; obtain ⟨v130, h131, h⟩ := h
                refine x_iald 306 rfl h131 d_Law_law_306 ?_
                replace h := gb1_elim h; obtain ⟨b135, h136, h⟩ := h
                replace h := gb2_elim h; obtain ⟨v132, mm133, h134, h⟩ := h
                refine x_callV 307 2 (as := [.inl v128, .inl v130]) (st' := []) (rs := [.inl v132]) (k_S_equal h134) rfl cf_Law_35 ⟨rfl, by decide +kernel, by decide, by decide, Nat.le_of_ble_eq_true rfl⟩ h136 rfl d_Law_law_307 ?_
                refine x_aloadn 310 2 d_Law_law_310 rfl rfl ?_
                refine x_aloadn 311 0 d_Law_law_311 rfl rfl ?_
                refine x_iloadn 312 3 d_Law_law_312 rfl rfl ?_
                refine x_iconst 313 d_Law_law_313 (v := (1 : Int32)) (by decide +kernel) ?_
                refine x_iadd 314 d_Law_law_314 ?_
                replace h := gb1_elim h; obtain ⟨v137, h138, h⟩ := h
                refine x_iald 315 rfl h138 d_Law_law_315 ?_
                refine x_aloadn 316 0 d_Law_law_316 rfl rfl ?_
                refine x_iloadn 317 3 d_Law_law_317 rfl rfl ?_
                refine x_iconst 318 d_Law_law_318 (v := (2 : Int32)) (by decide +kernel) ?_
                refine x_iadd 319 d_Law_law_319 ?_
                replace h := gb1_elim h; obtain ⟨v139, h140, h⟩ := h
                refine x_iald 320 rfl h140 d_Law_law_320 ?_
                replace h := gb1_elim h; obtain ⟨b144, h145, h⟩ := h
                replace h := gb2_elim h; obtain ⟨v141, mm142, h143, h⟩ := h
                refine x_callV 321 2 (as := [.inl v137, .inl v139]) (st' := [.inl v132]) (rs := [.inl v141]) (k_M_equal h143) rfl cf_Law_39 ⟨rfl, by decide +kernel, by decide, by decide, Nat.le_of_ble_eq_true rfl⟩ h145 rfl d_Law_law_321 ?_
                refine x_icmp_eq 324 947 d_Law_law_324 (by decide) (fun c146 => ?_) (fun c146 => ?_)
                · replace h := gif_t h c146
                  replace h := gLet_elim h; obtain ⟨x147, ex147, h⟩ := h
                  refine x_iinc 947 3 (v := x147) (lv' := [(3, .inl x147), (0, .inr (.inr p0)), (1, .inr (.inr p1)), (2, .inr (.inr p2))]) d_Law_law_947 rfl (by rw [ex147]; rfl) (by decide) rfl ?_
                  refine x_goto 950 18 d_Law_law_950 (by decide) ?_
                  refine x_sub [1, 2, 3, 0] rfl ?_
                  exact ih _ _ _ _ _ h
                · replace h := gif_f h c146
                  refine x_sub [] rfl ?_
                  exact hk327 _ h
              · replace h := gif_f h c26
                by_cases c27 : (v20 &&& (31 : Int32)) = 5
                · replace h := gif_t h c27
                  refine x_tsIn 33 329 5 (off := 296) c27 d_Law_law_33 (by decide +kernel) (by decide +kernel) (by decide +kernel) (by decide) ?_
                  refine x_aloadn 329 1 d_Law_law_329 rfl rfl ?_
                  refine x_aloadn 330 0 d_Law_law_330 rfl rfl ?_
                  refine x_iloadn 331 3 d_Law_law_331 rfl rfl ?_
                  refine x_iconst 332 d_Law_law_332 (v := (1 : Int32)) (by decide +kernel) ?_
                  refine x_iadd 333 d_Law_law_333 ?_
                  replace h := gb1_elim h; obtain ⟨v148, h149, h⟩ := h
                  refine x_iald 334 rfl h149 d_Law_law_334 ?_
                  refine x_aloadn 335 0 d_Law_law_335 rfl rfl ?_
                  refine x_iloadn 336 3 d_Law_law_336 rfl rfl ?_
                  refine x_iconst 337 d_Law_law_337 (v := (2 : Int32)) (by decide +kernel) ?_
                  refine x_iadd 338 d_Law_law_338 ?_
                  replace h := gb1_elim h; obtain ⟨v150, h151, h⟩ := h
                  refine x_iald 339 rfl h151 d_Law_law_339 ?_
                  refine x_aloadn 340 0 d_Law_law_340 rfl rfl ?_
                  refine x_iloadn 341 3 d_Law_law_341 rfl rfl ?_
                  refine x_iconst 342 d_Law_law_342 (v := (3 : Int32)) (by decide +kernel) ?_
                  refine x_iadd 343 d_Law_law_343 ?_
                  replace h := gb1_elim h; obtain ⟨v152, h153, h⟩ := h
                  refine x_iald 344 rfl h153 d_Law_law_344 ?_
                  refine x_aloadn 345 0 d_Law_law_345 rfl rfl ?_
                  refine x_iloadn 346 3 d_Law_law_346 rfl rfl ?_
                  refine x_iconst 347 d_Law_law_347 (v := (4 : Int32)) (by decide +kernel) ?_
                  refine x_iadd 348 d_Law_law_348 ?_
                  replace h := gb1_elim h; obtain ⟨v154, h155, h⟩ := h
                  refine x_iald 349 rfl h155 d_Law_law_349 ?_
                  replace h := gb1_elim h; obtain ⟨b159, h160, h⟩ := h
                  replace h := gb2_elim h; obtain ⟨v156, mm157, h158, h⟩ := h
                  refine x_callV 350 4 (as := [.inl v148, .inl v150, .inl v152, .inl v154]) (st' := []) (rs := [.inr (.inl v156)]) (k_S_known h158) rfl cf_Law_40 ⟨rfl, by decide +kernel, by decide, by decide, Nat.le_of_ble_eq_true rfl⟩ h160 rfl d_Law_law_350 ?_
                  refine x_aloadn 353 2 d_Law_law_353 rfl rfl ?_
                  refine x_aloadn 354 0 d_Law_law_354 rfl rfl ?_
                  refine x_iloadn 355 3 d_Law_law_355 rfl rfl ?_
                  refine x_iconst 356 d_Law_law_356 (v := (1 : Int32)) (by decide +kernel) ?_
                  refine x_iadd 357 d_Law_law_357 ?_
                  replace h := gb1_elim h; obtain ⟨v161, h162, h⟩ := h
                  refine x_iald 358 rfl h162 d_Law_law_358 ?_
                  refine x_aloadn 359 0 d_Law_law_359 rfl rfl ?_
                  refine x_iloadn 360 3 d_Law_law_360 rfl rfl ?_
                  refine x_iconst 361 d_Law_law_361 (v := (2 : Int32)) (by decide +kernel) ?_
                  refine x_iadd 362 d_Law_law_362 ?_
                  replace h := gb1_elim h; obtain ⟨v163, h164, h⟩ := h
                  refine x_iald 363 rfl h164 d_Law_law_363 ?_
                  refine x_aloadn 364 0 d_Law_law_364 rfl rfl ?_
                  refine x_iloadn 365 3 d_Law_law_365 rfl rfl ?_
                  refine x_iconst 366 d_Law_law_366 (v := (3 : Int32)) (by decide +kernel) ?_
                  refine x_iadd 367 d_Law_law_367 ?_
                  replace h := gb1_elim h; obtain ⟨v165, h166, h⟩ := h
                  refine x_iald 368 rfl h166 d_Law_law_368 ?_
                  refine x_aloadn 369 0 d_Law_law_369 rfl rfl ?_
                  refine x_iloadn 370 3 d_Law_law_370 rfl rfl ?_
                  refine x_iconst 371 d_Law_law_371 (v := (4 : Int32)) (by decide +kernel) ?_
                  refine x_iadd 372 d_Law_law_372 ?_
                  replace h := gb1_elim h; obtain ⟨v167, h168, h⟩ := h
                  refine x_iald 373 rfl h168 d_Law_law_373 ?_
                  replace h := gb1_elim h; obtain ⟨b172, h173, h⟩ := h
                  replace h := gb2_elim h; obtain ⟨v169, mm170, h171, h⟩ := h
                  refine x_callV 374 4 (as := [.inl v161, .inl v163, .inl v165, .inl v167]) (st' := [.inr (.inl v156)]) (rs := [.inr (.inl v169)]) (k_M_known h171) rfl cf_Law_44 ⟨rfl, by decide +kernel, by decide, by decide, Nat.le_of_ble_eq_true rfl⟩ h173 rfl d_Law_law_374 ?_
                  refine x_lc_eq 377 947 d_Law_law_377 d_Law_law_378 (by decide) (fun c174 => ?_) (fun c174 => ?_)
                  · replace h := gif_t h c174
                    replace h := gLet_elim h; obtain ⟨x175, ex175, h⟩ := h
                    refine x_iinc 947 3 (v := x175) (lv' := [(3, .inl x175), (0, .inr (.inr p0)), (1, .inr (.inr p1)), (2, .inr (.inr p2))]) d_Law_law_947 rfl (by rw [ex175]; rfl) (by decide) rfl ?_
                    refine x_goto 950 18 d_Law_law_950 (by decide) ?_
                    refine x_sub [1, 2, 3, 0] rfl ?_
                    exact ih _ _ _ _ _ h
                  · replace h := gif_f h c174
                    refine x_sub [] rfl ?_
                    exact hk381 _ h
                · replace h := gif_f h c27
                  by_cases c28 : (v20 &&& (31 : Int32)) = 6
                  · replace h := gif_t h c28
                    refine x_tsIn 33 383 6 (off := 350) c28 d_Law_law_33 (by decide +kernel) (by decide +kernel) (by decide +kernel) (by decide) ?_
                    refine x_aloadn 383 1 d_Law_law_383 rfl rfl ?_
                    refine x_aloadn 384 0 d_Law_law_384 rfl rfl ?_
                    refine x_iloadn 385 3 d_Law_law_385 rfl rfl ?_
                    refine x_iconst 386 d_Law_law_386 (v := (1 : Int32)) (by decide +kernel) ?_
                    refine x_iadd 387 d_Law_law_387 ?_
                    replace h := gb1_elim h; obtain ⟨v176, h177, h⟩ := h
                    refine x_iald 388 rfl h177 d_Law_law_388 ?_
                    refine x_aloadn 389 0 d_Law_law_389 rfl rfl ?_
                    refine x_iloadn 390 3 d_Law_law_390 rfl rfl ?_
                    refine x_iconst 391 d_Law_law_391 (v := (2 : Int32)) (by decide +kernel) ?_
                    refine x_iadd 392 d_Law_law_392 ?_
                    replace h := gb1_elim h; obtain ⟨v178, h179, h⟩ := h
                    refine x_iald 393 rfl h179 d_Law_law_393 ?_
                    refine x_aloadn 394 0 d_Law_law_394 rfl rfl ?_
                    refine x_iloadn 395 3 d_Law_law_395 rfl rfl ?_
                    refine x_iconst 396 d_Law_law_396 (v := (3 : Int32)) (by decide +kernel) ?_
                    refine x_iadd 397 d_Law_law_397 ?_
                    replace h := gb1_elim h; obtain ⟨v180, h181, h⟩ := h
                    refine x_iald 398 rfl h181 d_Law_law_398 ?_
                    replace h := gb1_elim h; obtain ⟨b185, h186, h⟩ := h
                    replace h := gb2_elim h; obtain ⟨v182, mm183, h184, h⟩ := h
                    refine x_callV 399 3 (as := [.inl v176, .inl v178, .inl v180]) (st' := []) (rs := [.inl v182]) (k_S_conflict h184) rfl cf_Law_45 ⟨rfl, by decide +kernel, by decide, by decide, Nat.le_of_ble_eq_true rfl⟩ h186 rfl d_Law_law_399 ?_
                    refine x_aloadn 402 2 d_Law_law_402 rfl rfl ?_
                    refine x_aloadn 403 0 d_Law_law_403 rfl rfl ?_
                    refine x_iloadn 404 3 d_Law_law_404 rfl rfl ?_
                    refine x_iconst 405 d_Law_law_405 (v := (1 : Int32)) (by decide +kernel) ?_
                    refine x_iadd 406 d_Law_law_406 ?_
                    replace h := gb1_elim h; obtain ⟨v187, h188, h⟩ := h
                    refine x_iald 407 rfl h188 d_Law_law_407 ?_
                    refine x_aloadn 408 0 d_Law_law_408 rfl rfl ?_
                    refine x_iloadn 409 3 d_Law_law_409 rfl rfl ?_
                    refine x_iconst 410 d_Law_law_410 (v := (2 : Int32)) (by decide +kernel) ?_
                    refine x_iadd 411 d_Law_law_411 ?_
                    replace h := gb1_elim h; obtain ⟨v189, h190, h⟩ := h
                    refine x_iald 412 rfl h190 d_Law_law_412 ?_
                    refine x_aloadn 413 0 d_Law_law_413 rfl rfl ?_
                    refine x_iloadn 414 3 d_Law_law_414 rfl rfl ?_
                    refine x_iconst 415 d_Law_law_415 (v := (3 : Int32)) (by decide +kernel) ?_
                    refine x_iadd 416 d_Law_law_416 ?_
                    replace h := gb1_elim h; obtain ⟨v191, h192, h⟩ := h
                    refine x_iald 417 rfl h192 d_Law_law_417 ?_
                    replace h := gb1_elim h; obtain ⟨b196, h197, h⟩ := h
                    replace h := gb2_elim h; obtain ⟨v193, mm194, h195, h⟩ := h
                    refine x_callV 418 3 (as := [.inl v187, .inl v189, .inl v191]) (st' := [.inl v182]) (rs := [.inl v193]) (k_M_conflict h195) rfl cf_Law_49 ⟨rfl, by decide +kernel, by decide, by decide, Nat.le_of_ble_eq_true rfl⟩ h197 rfl d_Law_law_418 ?_
                    refine x_icmp_eq 421 947 d_Law_law_421 (by decide) (fun c198 => ?_) (fun c198 => ?_)
                    · replace h := gif_t h c198
                      replace h := gLet_elim h; obtain ⟨x199, ex199, h⟩ := h
                      refine x_iinc 947 3 (v := x199) (lv' := [(3, .inl x199), (0, .inr (.inr p0)), (1, .inr (.inr p1)), (2, .inr (.inr p2))]) d_Law_law_947 rfl (by rw [ex199]; rfl) (by decide) rfl ?_
                      refine x_goto 950 18 d_Law_law_950 (by decide) ?_
                      refine x_sub [1, 2, 3, 0] rfl ?_
                      exact ih _ _ _ _ _ h
                    · replace h := gif_f h c198
                      refine x_sub [] rfl ?_
                      exact hk424 _ h
                  · replace h := gif_f h c28
                    by_cases c29 : (v20 &&& (31 : Int32)) = 7
                    · replace h := gif_t h c29
                      refine x_tsIn 33 426 7 (off := 393) c29 d_Law_law_33 (by decide +kernel) (by decide +kernel) (by decide +kernel) (by decide) ?_
                      refine x_aloadn 426 1 d_Law_law_426 rfl rfl ?_
                      refine x_aloadn 427 0 d_Law_law_427 rfl rfl ?_
                      refine x_iloadn 428 3 d_Law_law_428 rfl rfl ?_
                      refine x_iconst 429 d_Law_law_429 (v := (1 : Int32)) (by decide +kernel) ?_
                      refine x_iadd 430 d_Law_law_430 ?_
                      replace h := gb1_elim h; obtain ⟨v200, h201, h⟩ := h
                      refine x_iald 431 rfl h201 d_Law_law_431 ?_
                      refine x_aloadn 432 0 d_Law_law_432 rfl rfl ?_
                      refine x_iloadn 433 3 d_Law_law_433 rfl rfl ?_
                      refine x_iconst 434 d_Law_law_434 (v := (2 : Int32)) (by decide +kernel) ?_
                      refine x_iadd 435 d_Law_law_435 ?_
                      replace h := gb1_elim h; obtain ⟨v202, h203, h⟩ := h
                      refine x_iald 436 rfl h203 d_Law_law_436 ?_
                      refine x_aloadn 437 0 d_Law_law_437 rfl rfl ?_
                      refine x_iloadn 438 3 d_Law_law_438 rfl rfl ?_
                      refine x_iconst 439 d_Law_law_439 (v := (3 : Int32)) (by decide +kernel) ?_
                      refine x_iadd 440 d_Law_law_440 ?_
                      replace h := gb1_elim h; obtain ⟨v204, h205, h⟩ := h
                      refine x_iald 441 rfl h205 d_Law_law_441 ?_
                      refine x_aloadn 442 0 d_Law_law_442 rfl rfl ?_
                      refine x_iloadn 443 3 d_Law_law_443 rfl rfl ?_
                      refine x_iconst 444 d_Law_law_444 (v := (4 : Int32)) (by decide +kernel) ?_
                      refine x_iadd 445 d_Law_law_445 ?_
                      replace h := gb1_elim h; obtain ⟨v206, h207, h⟩ := h
                      refine x_iald 446 rfl h207 d_Law_law_446 ?_
                      replace h := gb1_elim h; obtain ⟨b211, h212, h⟩ := h
                      replace h := gb2_elim h; obtain ⟨v208, mm209, h210, h⟩ := h
                      refine x_callV 447 4 (as := [.inl v200, .inl v202, .inl v204, .inl v206]) (st' := []) (rs := [.inl v208]) (k_S_settle h210) rfl cf_Law_50 ⟨rfl, by decide +kernel, by decide, by decide, Nat.le_of_ble_eq_true rfl⟩ h212 rfl d_Law_law_447 ?_
                      refine x_aloadn 450 2 d_Law_law_450 rfl rfl ?_
                      refine x_aloadn 451 0 d_Law_law_451 rfl rfl ?_
                      refine x_iloadn 452 3 d_Law_law_452 rfl rfl ?_
                      refine x_iconst 453 d_Law_law_453 (v := (1 : Int32)) (by decide +kernel) ?_
                      refine x_iadd 454 d_Law_law_454 ?_
                      replace h := gb1_elim h; obtain ⟨v213, h214, h⟩ := h
                      refine x_iald 455 rfl h214 d_Law_law_455 ?_
                      refine x_aloadn 456 0 d_Law_law_456 rfl rfl ?_
                      refine x_iloadn 457 3 d_Law_law_457 rfl rfl ?_
                      refine x_iconst 458 d_Law_law_458 (v := (2 : Int32)) (by decide +kernel) ?_
                      refine x_iadd 459 d_Law_law_459 ?_
                      replace h := gb1_elim h; obtain ⟨v215, h216, h⟩ := h
                      refine x_iald 460 rfl h216 d_Law_law_460 ?_
                      refine x_aloadn 461 0 d_Law_law_461 rfl rfl ?_
                      refine x_iloadn 462 3 d_Law_law_462 rfl rfl ?_
                      refine x_iconst 463 d_Law_law_463 (v := (3 : Int32)) (by decide +kernel) ?_
                      refine x_iadd 464 d_Law_law_464 ?_
                      replace h := gb1_elim h; obtain ⟨v217, h218, h⟩ := h
                      refine x_iald 465 rfl h218 d_Law_law_465 ?_
                      refine x_aloadn 466 0 d_Law_law_466 rfl rfl ?_
                      refine x_iloadn 467 3 d_Law_law_467 rfl rfl ?_
                      refine x_iconst 468 d_Law_law_468 (v := (4 : Int32)) (by decide +kernel) ?_
                      refine x_iadd 469 d_Law_law_469 ?_
                      replace h := gb1_elim h; obtain ⟨v219, h220, h⟩ := h
                      refine x_iald 470 rfl h220 d_Law_law_470 ?_
                      replace h := gb1_elim h; obtain ⟨b224, h225, h⟩ := h
                      replace h := gb2_elim h; obtain ⟨v221, mm222, h223, h⟩ := h
                      refine x_callV 471 4 (as := [.inl v213, .inl v215, .inl v217, .inl v219]) (st' := [.inl v208]) (rs := [.inl v221]) (k_M_settle h223) rfl cf_Law_54 ⟨rfl, by decide +kernel, by decide, by decide, Nat.le_of_ble_eq_true rfl⟩ h225 rfl d_Law_law_471 ?_
                      refine x_icmp_eq 474 947 d_Law_law_474 (by decide) (fun c226 => ?_) (fun c226 => ?_)
                      · replace h := gif_t h c226
                        replace h := gLet_elim h; obtain ⟨x227, ex227, h⟩ := h
                        refine x_iinc 947 3 (v := x227) (lv' := [(3, .inl x227), (0, .inr (.inr p0)), (1, .inr (.inr p1)), (2, .inr (.inr p2))]) d_Law_law_947 rfl (by rw [ex227]; rfl) (by decide) rfl ?_
                        refine x_goto 950 18 d_Law_law_950 (by decide) ?_
                        refine x_sub [1, 2, 3, 0] rfl ?_
                        exact ih _ _ _ _ _ h
                      · replace h := gif_f h c226
                        refine x_sub [] rfl ?_
                        exact hk477 _ h
                    · replace h := gif_f h c29
                      by_cases c30 : (v20 &&& (31 : Int32)) = 8
                      · replace h := gif_t h c30
                        refine x_tsIn 33 479 8 (off := 446) c30 d_Law_law_33 (by decide +kernel) (by decide +kernel) (by decide +kernel) (by decide) ?_
                        refine x_aloadn 479 1 d_Law_law_479 rfl rfl ?_
                        refine x_aloadn 480 0 d_Law_law_480 rfl rfl ?_
                        refine x_iloadn 481 3 d_Law_law_481 rfl rfl ?_
                        refine x_iconst 482 d_Law_law_482 (v := (1 : Int32)) (by decide +kernel) ?_
                        refine x_iadd 483 d_Law_law_483 ?_
                        replace h := gb1_elim h; obtain ⟨v228, h229, h⟩ := h
                        refine x_iald 484 rfl h229 d_Law_law_484 ?_
                        replace h := gb1_elim h; obtain ⟨b233, h234, h⟩ := h
                        replace h := gb2_elim h; obtain ⟨v230, mm231, h232, h⟩ := h
                        refine x_callV 485 1 (as := [.inl v228]) (st' := []) (rs := [.inl v230]) (k_S_batch h232) rfl cf_Law_55 ⟨rfl, by decide +kernel, by decide, by decide, Nat.le_of_ble_eq_true rfl⟩ h234 rfl d_Law_law_485 ?_
                        refine x_aloadn 488 2 d_Law_law_488 rfl rfl ?_
                        refine x_aloadn 489 0 d_Law_law_489 rfl rfl ?_
                        refine x_iloadn 490 3 d_Law_law_490 rfl rfl ?_
                        refine x_iconst 491 d_Law_law_491 (v := (1 : Int32)) (by decide +kernel) ?_
                        refine x_iadd 492 d_Law_law_492 ?_
                        replace h := gb1_elim h; obtain ⟨v235, h236, h⟩ := h
                        refine x_iald 493 rfl h236 d_Law_law_493 ?_
                        replace h := gb1_elim h; obtain ⟨b240, h241, h⟩ := h
                        replace h := gb2_elim h; obtain ⟨v237, mm238, h239, h⟩ := h
                        refine x_callV 494 1 (as := [.inl v235]) (st' := [.inl v230]) (rs := [.inl v237]) (k_M_batch h239) rfl cf_Law_59 ⟨rfl, by decide +kernel, by decide, by decide, Nat.le_of_ble_eq_true rfl⟩ h241 rfl d_Law_law_494 ?_
                        refine x_icmp_eq 497 947 d_Law_law_497 (by decide) (fun c242 => ?_) (fun c242 => ?_)
                        · replace h := gif_t h c242
                          replace h := gLet_elim h; obtain ⟨x243, ex243, h⟩ := h
                          refine x_iinc 947 3 (v := x243) (lv' := [(3, .inl x243), (0, .inr (.inr p0)), (1, .inr (.inr p1)), (2, .inr (.inr p2))]) d_Law_law_947 rfl (by rw [ex243]; rfl) (by decide) rfl ?_
                          refine x_goto 950 18 d_Law_law_950 (by decide) ?_
                          refine x_sub [1, 2, 3, 0] rfl ?_
                          exact ih _ _ _ _ _ h
                        · replace h := gif_f h c242
                          refine x_sub [] rfl ?_
                          exact hk500 _ h
                      · replace h := gif_f h c30
                        by_cases c31 : (v20 &&& (31 : Int32)) = 9
                        · replace h := gif_t h c31
                          refine x_tsIn 33 502 9 (off := 469) c31 d_Law_law_33 (by decide +kernel) (by decide +kernel) (by decide +kernel) (by decide) ?_
                          refine x_aloadn 502 1 d_Law_law_502 rfl rfl ?_
                          refine x_aloadn 503 0 d_Law_law_503 rfl rfl ?_
                          refine x_iloadn 504 3 d_Law_law_504 rfl rfl ?_
                          refine x_iconst 505 d_Law_law_505 (v := (1 : Int32)) (by decide +kernel) ?_
                          refine x_iadd 506 d_Law_law_506 ?_
                          replace h := gb1_elim h; obtain ⟨v244, h245, h⟩ := h
                          refine x_iald 507 rfl h245 d_Law_law_507 ?_
                          replace h := gb1_elim h; obtain ⟨b249, h250, h⟩ := h
                          replace h := gb2_elim h; obtain ⟨v246, mm247, h248, h⟩ := h
                          refine x_callV 508 1 (as := [.inl v244]) (st' := []) (rs := [.inl v246]) (k_S_endBatch h248) rfl cf_Law_60 ⟨rfl, by decide +kernel, by decide, by decide, Nat.le_of_ble_eq_true rfl⟩ h250 rfl d_Law_law_508 ?_
                          refine x_aloadn 511 2 d_Law_law_511 rfl rfl ?_
                          refine x_aloadn 512 0 d_Law_law_512 rfl rfl ?_
                          refine x_iloadn 513 3 d_Law_law_513 rfl rfl ?_
                          refine x_iconst 514 d_Law_law_514 (v := (1 : Int32)) (by decide +kernel) ?_
                          refine x_iadd 515 d_Law_law_515 ?_
                          replace h := gb1_elim h; obtain ⟨v251, h252, h⟩ := h
                          refine x_iald 516 rfl h252 d_Law_law_516 ?_
                          replace h := gb1_elim h; obtain ⟨b256, h257, h⟩ := h
                          replace h := gb2_elim h; obtain ⟨v253, mm254, h255, h⟩ := h
                          refine x_callV 517 1 (as := [.inl v251]) (st' := [.inl v246]) (rs := [.inl v253]) (k_M_endBatch h255) rfl cf_Law_63 ⟨rfl, by decide +kernel, by decide, by decide, Nat.le_of_ble_eq_true rfl⟩ h257 rfl d_Law_law_517 ?_
                          refine x_icmp_eq 520 947 d_Law_law_520 (by decide) (fun c258 => ?_) (fun c258 => ?_)
                          · replace h := gif_t h c258
                            replace h := gLet_elim h; obtain ⟨x259, ex259, h⟩ := h
                            refine x_iinc 947 3 (v := x259) (lv' := [(3, .inl x259), (0, .inr (.inr p0)), (1, .inr (.inr p1)), (2, .inr (.inr p2))]) d_Law_law_947 rfl (by rw [ex259]; rfl) (by decide) rfl ?_
                            refine x_goto 950 18 d_Law_law_950 (by decide) ?_
                            refine x_sub [1, 2, 3, 0] rfl ?_
                            exact ih _ _ _ _ _ h
                          · replace h := gif_f h c258
                            refine x_sub [] rfl ?_
                            exact hk523 _ h
                        · replace h := gif_f h c31
                          by_cases c32 : (v20 &&& (31 : Int32)) = 10
                          · replace h := gif_t h c32
                            refine x_tsIn 33 525 10 (off := 492) c32 d_Law_law_33 (by decide +kernel) (by decide +kernel) (by decide +kernel) (by decide) ?_
                            refine x_aloadn 525 1 d_Law_law_525 rfl rfl ?_
                            refine x_aloadn 526 0 d_Law_law_526 rfl rfl ?_
                            refine x_iloadn 527 3 d_Law_law_527 rfl rfl ?_
                            refine x_iconst 528 d_Law_law_528 (v := (1 : Int32)) (by decide +kernel) ?_
                            refine x_iadd 529 d_Law_law_529 ?_
                            replace h := gb1_elim h; obtain ⟨v260, h261, h⟩ := h
                            refine x_iald 530 rfl h261 d_Law_law_530 ?_
                            refine x_aloadn 531 0 d_Law_law_531 rfl rfl ?_
                            refine x_iloadn 532 3 d_Law_law_532 rfl rfl ?_
                            refine x_iconst 533 d_Law_law_533 (v := (2 : Int32)) (by decide +kernel) ?_
                            refine x_iadd 534 d_Law_law_534 ?_
                            replace h := gb1_elim h; obtain ⟨v262, h263, h⟩ := h
                            refine x_iald 535 rfl h263 d_Law_law_535 ?_
                            refine x_aloadn 536 0 d_Law_law_536 rfl rfl ?_
                            refine x_iloadn 537 3 d_Law_law_537 rfl rfl ?_
                            refine x_iconst 538 d_Law_law_538 (v := (3 : Int32)) (by decide +kernel) ?_
                            refine x_iadd 539 d_Law_law_539 ?_
                            replace h := gb1_elim h; obtain ⟨v264, h265, h⟩ := h
                            refine x_iald 540 rfl h265 d_Law_law_540 ?_
                            replace h := gLet_elim h; obtain ⟨J549, hJ549, h⟩ := h
                            have kJ549 : ∀ (p0 : Option Nat) (p1 : Option Nat) (p2 : Option Nat) (p3 : Int32) (q0 : Int32) (q1 : Int32) (q2 : Int32) (q3 : Option Nat) (mm : gM), J549 p0 p1 p2 p3 q0 q1 q2 q3 mm = some (r, res) → xX l E Y_Law_law n0 s0 (some (.int r)) res 549 [(0, .inr (.inr p0)), (1, .inr (.inr p1)), (2, .inr (.inr p2)), (3, .inl p3)] [.inl q0, .inl q1, .inl q2, .inr (.inr q3)] mm := by
                              intro p0 p1 p2 p3 q0 q1 q2 q3 mm h
                              rw [hJ549] at h
                              replace h := gb1_elim h; obtain ⟨b269, h270, h⟩ := h
                              replace h := gb2_elim h; obtain ⟨v266, mm267, h268, h⟩ := h
                              refine x_callV 549 3 (as := [.inl q2, .inl q1, .inl q0]) (st' := []) (rs := [.inl v266]) (k_S_right h268) rfl cf_Law_64 ⟨rfl, by decide +kernel, by decide, by decide, Nat.le_of_ble_eq_true rfl⟩ h270 rfl d_Law_law_549 ?_
                              refine x_aloadn 552 2 d_Law_law_552 rfl rfl ?_
                              refine x_aloadn 553 0 d_Law_law_553 rfl rfl ?_
                              refine x_iloadn 554 3 d_Law_law_554 rfl rfl ?_
                              refine x_iconst 555 d_Law_law_555 (v := (1 : Int32)) (by decide +kernel) ?_
                              refine x_iadd 556 d_Law_law_556 ?_
                              replace h := gb1_elim h; obtain ⟨v271, h272, h⟩ := h
                              refine x_iald 557 rfl h272 d_Law_law_557 ?_
                              refine x_aloadn 558 0 d_Law_law_558 rfl rfl ?_
                              refine x_iloadn 559 3 d_Law_law_559 rfl rfl ?_
                              refine x_iconst 560 d_Law_law_560 (v := (2 : Int32)) (by decide +kernel) ?_
                              refine x_iadd 561 d_Law_law_561 ?_
                              replace h := gb1_elim h; obtain ⟨v273, h274, h⟩ := h
                              refine x_iald 562 rfl h274 d_Law_law_562 ?_
                              refine x_aloadn 563 0 d_Law_law_563 rfl rfl ?_
                              refine x_iloadn 564 3 d_Law_law_564 rfl rfl ?_
                              refine x_iconst 565 d_Law_law_565 (v := (3 : Int32)) (by decide +kernel) ?_
                              refine x_iadd 566 d_Law_law_566 ?_
                              replace h := gb1_elim h; obtain ⟨v275, h276, h⟩ := h
                              refine x_iald 567 rfl h276 d_Law_law_567 ?_
                              refine x_if_eq 568 575 d_Law_law_568 (by decide) (fun c277 => ?_) (fun c277 => ?_)
                              · replace h := gif_t h c277
                                refine x_iconst 575 d_Law_law_575 (v := (0 : Int32)) (by decide +kernel) ?_
                                replace h := gb1_elim h; obtain ⟨b281, h282, h⟩ := h
                                replace h := gb2_elim h; obtain ⟨v278, mm279, h280, h⟩ := h
                                refine x_callV 576 3 (as := [.inl v271, .inl v273, .inl (0 : Int32)]) (st' := [.inl v266]) (rs := [.inl v278]) (k_M_right h280) rfl cf_Law_68 ⟨rfl, by decide +kernel, by decide, by decide, Nat.le_of_ble_eq_true rfl⟩ h282 rfl d_Law_law_576 ?_
                                refine x_icmp_eq 579 947 d_Law_law_579 (by decide) (fun c283 => ?_) (fun c283 => ?_)
                                · replace h := gif_t h c283
                                  replace h := gLet_elim h; obtain ⟨x284, ex284, h⟩ := h
                                  refine x_iinc 947 3 (v := x284) (lv' := [(3, .inl x284), (0, .inr (.inr p0)), (1, .inr (.inr p1)), (2, .inr (.inr p2))]) d_Law_law_947 rfl (by rw [ex284]; rfl) (by decide) rfl ?_
                                  refine x_goto 950 18 d_Law_law_950 (by decide) ?_
                                  refine x_sub [1, 2, 3, 0] rfl ?_
                                  exact ih _ _ _ _ _ h
                                · replace h := gif_f h c283
                                  refine x_sub [] rfl ?_
                                  exact hk582 _ h
                              · replace h := gif_f h c277
                                refine x_iconst 571 d_Law_law_571 (v := (1 : Int32)) (by decide +kernel) ?_
                                refine x_goto 572 576 d_Law_law_572 (by decide) ?_
                                replace h := gb1_elim h; obtain ⟨b288, h289, h⟩ := h
                                replace h := gb2_elim h; obtain ⟨v285, mm286, h287, h⟩ := h
                                refine x_callV 576 3 (as := [.inl v271, .inl v273, .inl (1 : Int32)]) (st' := [.inl v266]) (rs := [.inl v285]) (k_M_right h287) rfl cf_Law_68 ⟨rfl, by decide +kernel, by decide, by decide, Nat.le_of_ble_eq_true rfl⟩ h289 rfl d_Law_law_576 ?_
                                refine x_icmp_eq 579 947 d_Law_law_579 (by decide) (fun c290 => ?_) (fun c290 => ?_)
                                · replace h := gif_t h c290
                                  replace h := gLet_elim h; obtain ⟨x291, ex291, h⟩ := h
                                  refine x_iinc 947 3 (v := x291) (lv' := [(3, .inl x291), (0, .inr (.inr p0)), (1, .inr (.inr p1)), (2, .inr (.inr p2))]) d_Law_law_947 rfl (by rw [ex291]; rfl) (by decide) rfl ?_
                                  refine x_goto 950 18 d_Law_law_950 (by decide) ?_
                                  refine x_sub [1, 2, 3, 0] rfl ?_
                                  exact ih _ _ _ _ _ h
                                · replace h := gif_f h c290
                                  refine x_sub [] rfl ?_
                                  exact hk582 _ h
                            refine x_if_eq 541 548 d_Law_law_541 (by decide) (fun c292 => ?_) (fun c292 => ?_)
                            · replace h := gif_t h c292
                              refine x_iconst 548 d_Law_law_548 (v := (0 : Int32)) (by decide +kernel) ?_
                              exact kJ549 _ _ _ _ _ _ _ _ _ h
                            · replace h := gif_f h c292
                              refine x_iconst 544 d_Law_law_544 (v := (1 : Int32)) (by decide +kernel) ?_
                              refine x_goto 545 549 d_Law_law_545 (by decide) ?_
                              exact kJ549 _ _ _ _ _ _ _ _ _ h
                          · replace h := gif_f h c32
                            by_cases c33 : (v20 &&& (31 : Int32)) = 11
                            · replace h := gif_t h c33
                              refine x_tsIn 33 584 11 (off := 551) c33 d_Law_law_33 (by decide +kernel) (by decide +kernel) (by decide +kernel) (by decide) ?_
                              refine x_aloadn 584 1 d_Law_law_584 rfl rfl ?_
                              refine x_aloadn 585 0 d_Law_law_585 rfl rfl ?_
                              refine x_iloadn 586 3 d_Law_law_586 rfl rfl ?_
                              refine x_iconst 587 d_Law_law_587 (v := (1 : Int32)) (by decide +kernel) ?_
                              refine x_iadd 588 d_Law_law_588 ?_
                              replace h := gb1_elim h; obtain ⟨v293, h294, h⟩ := h
                              refine x_iald 589 rfl h294 d_Law_law_589 ?_
                              refine x_aloadn 590 0 d_Law_law_590 rfl rfl ?_
                              refine x_iloadn 591 3 d_Law_law_591 rfl rfl ?_
                              refine x_iconst 592 d_Law_law_592 (v := (2 : Int32)) (by decide +kernel) ?_
                              refine x_iadd 593 d_Law_law_593 ?_
                              replace h := gb1_elim h; obtain ⟨v295, h296, h⟩ := h
                              refine x_iald 594 rfl h296 d_Law_law_594 ?_
                              refine x_aloadn 595 0 d_Law_law_595 rfl rfl ?_
                              refine x_iloadn 596 3 d_Law_law_596 rfl rfl ?_
                              refine x_iconst 597 d_Law_law_597 (v := (3 : Int32)) (by decide +kernel) ?_
                              refine x_iadd 598 d_Law_law_598 ?_
                              replace h := gb1_elim h; obtain ⟨v297, h298, h⟩ := h
                              refine x_iald 599 rfl h298 d_Law_law_599 ?_
                              refine x_aloadn 600 0 d_Law_law_600 rfl rfl ?_
                              refine x_iloadn 601 3 d_Law_law_601 rfl rfl ?_
                              refine x_iconst 602 d_Law_law_602 (v := (4 : Int32)) (by decide +kernel) ?_
                              refine x_iadd 603 d_Law_law_603 ?_
                              replace h := gb1_elim h; obtain ⟨v299, h300, h⟩ := h
                              refine x_iald 604 rfl h300 d_Law_law_604 ?_
                              replace h := gb1_elim h; obtain ⟨b304, h305, h⟩ := h
                              replace h := gb2_elim h; obtain ⟨v301, mm302, h303, h⟩ := h
                              refine x_callV 605 4 (as := [.inl v293, .inl v295, .inl v297, .inl v299]) (st' := []) (rs := [.inr (.inl v301)]) (k_S_seen h303) rfl cf_Law_69 ⟨rfl, by decide +kernel, by decide, by decide, Nat.le_of_ble_eq_true rfl⟩ h305 rfl d_Law_law_605 ?_
                              refine x_aloadn 608 2 d_Law_law_608 rfl rfl ?_
                              refine x_aloadn 609 0 d_Law_law_609 rfl rfl ?_
                              refine x_iloadn 610 3 d_Law_law_610 rfl rfl ?_
                              refine x_iconst 611 d_Law_law_611 (v := (1 : Int32)) (by decide +kernel) ?_
                              refine x_iadd 612 d_Law_law_612 ?_
                              replace h := gb1_elim h; obtain ⟨v306, h307, h⟩ := h
                              refine x_iald 613 rfl h307 d_Law_law_613 ?_
                              refine x_aloadn 614 0 d_Law_law_614 rfl rfl ?_
                              refine x_iloadn 615 3 d_Law_law_615 rfl rfl ?_
                              refine x_iconst 616 d_Law_law_616 (v := (2 : Int32)) (by decide +kernel) ?_
                              refine x_iadd 617 d_Law_law_617 ?_
                              replace h := gb1_elim h; obtain ⟨v308, h309, h⟩ := h
                              refine x_iald 618 rfl h309 d_Law_law_618 ?_
                              refine x_aloadn 619 0 d_Law_law_619 rfl rfl ?_
                              refine x_iloadn 620 3 d_Law_law_620 rfl rfl ?_
                              refine x_iconst 621 d_Law_law_621 (v := (3 : Int32)) (by decide +kernel) ?_
                              refine x_iadd 622 d_Law_law_622 ?_
                              replace h := gb1_elim h; obtain ⟨v310, h311, h⟩ := h
                              refine x_iald 623 rfl h311 d_Law_law_623 ?_
                              refine x_aloadn 624 0 d_Law_law_624 rfl rfl ?_
                              refine x_iloadn 625 3 d_Law_law_625 rfl rfl ?_
                              refine x_iconst 626 d_Law_law_626 (v := (4 : Int32)) (by decide +kernel) ?_
                              refine x_iadd 627 d_Law_law_627 ?_
                              replace h := gb1_elim h; obtain ⟨v312, h313, h⟩ := h
                              refine x_iald 628 rfl h313 d_Law_law_628 ?_
                              replace h := gb1_elim h; obtain ⟨b317, h318, h⟩ := h
                              replace h := gb2_elim h; obtain ⟨v314, mm315, h316, h⟩ := h
                              refine x_callV 629 4 (as := [.inl v306, .inl v308, .inl v310, .inl v312]) (st' := [.inr (.inl v301)]) (rs := [.inr (.inl v314)]) (k_M_seen h316) rfl cf_Law_72 ⟨rfl, by decide +kernel, by decide, by decide, Nat.le_of_ble_eq_true rfl⟩ h318 rfl d_Law_law_629 ?_
                              refine x_lc_eq 632 947 d_Law_law_632 d_Law_law_633 (by decide) (fun c319 => ?_) (fun c319 => ?_)
                              · replace h := gif_t h c319
                                replace h := gLet_elim h; obtain ⟨x320, ex320, h⟩ := h
                                refine x_iinc 947 3 (v := x320) (lv' := [(3, .inl x320), (0, .inr (.inr p0)), (1, .inr (.inr p1)), (2, .inr (.inr p2))]) d_Law_law_947 rfl (by rw [ex320]; rfl) (by decide) rfl ?_
                                refine x_goto 950 18 d_Law_law_950 (by decide) ?_
                                refine x_sub [1, 2, 3, 0] rfl ?_
                                exact ih _ _ _ _ _ h
                              · replace h := gif_f h c319
                                refine x_sub [] rfl ?_
                                exact hk636 _ h
                            · replace h := gif_f h c33
                              by_cases c34 : (v20 &&& (31 : Int32)) = 12
                              · replace h := gif_t h c34
                                refine x_tsIn 33 638 12 (off := 605) c34 d_Law_law_33 (by decide +kernel) (by decide +kernel) (by decide +kernel) (by decide) ?_
                                refine x_aloadn 638 1 d_Law_law_638 rfl rfl ?_
                                refine x_aloadn 639 0 d_Law_law_639 rfl rfl ?_
                                refine x_iloadn 640 3 d_Law_law_640 rfl rfl ?_
                                refine x_iconst 641 d_Law_law_641 (v := (1 : Int32)) (by decide +kernel) ?_
                                refine x_iadd 642 d_Law_law_642 ?_
                                replace h := gb1_elim h; obtain ⟨v321, h322, h⟩ := h
                                refine x_iald 643 rfl h322 d_Law_law_643 ?_
                                refine x_aloadn 644 0 d_Law_law_644 rfl rfl ?_
                                refine x_iloadn 645 3 d_Law_law_645 rfl rfl ?_
                                refine x_iconst 646 d_Law_law_646 (v := (2 : Int32)) (by decide +kernel) ?_
                                refine x_iadd 647 d_Law_law_647 ?_
                                replace h := gb1_elim h; obtain ⟨v323, h324, h⟩ := h
                                refine x_iald 648 rfl h324 d_Law_law_648 ?_
                                refine x_aloadn 649 0 d_Law_law_649 rfl rfl ?_
                                refine x_iloadn 650 3 d_Law_law_650 rfl rfl ?_
                                refine x_iconst 651 d_Law_law_651 (v := (3 : Int32)) (by decide +kernel) ?_
                                refine x_iadd 652 d_Law_law_652 ?_
                                replace h := gb1_elim h; obtain ⟨v325, h326, h⟩ := h
                                refine x_iald 653 rfl h326 d_Law_law_653 ?_
                                replace h := gb1_elim h; obtain ⟨b330, h331, h⟩ := h
                                replace h := gb2_elim h; obtain ⟨v327, mm328, h329, h⟩ := h
                                refine x_callV 654 3 (as := [.inl v321, .inl v323, .inl v325]) (st' := []) (rs := [.inl v327]) (k_S_block h329) rfl cf_Law_73 ⟨rfl, by decide +kernel, by decide, by decide, Nat.le_of_ble_eq_true rfl⟩ h331 rfl d_Law_law_654 ?_
                                refine x_aloadn 657 2 d_Law_law_657 rfl rfl ?_
                                refine x_aloadn 658 0 d_Law_law_658 rfl rfl ?_
                                refine x_iloadn 659 3 d_Law_law_659 rfl rfl ?_
                                refine x_iconst 660 d_Law_law_660 (v := (1 : Int32)) (by decide +kernel) ?_
                                refine x_iadd 661 d_Law_law_661 ?_
                                replace h := gb1_elim h; obtain ⟨v332, h333, h⟩ := h
                                refine x_iald 662 rfl h333 d_Law_law_662 ?_
                                refine x_aloadn 663 0 d_Law_law_663 rfl rfl ?_
                                refine x_iloadn 664 3 d_Law_law_664 rfl rfl ?_
                                refine x_iconst 665 d_Law_law_665 (v := (2 : Int32)) (by decide +kernel) ?_
                                refine x_iadd 666 d_Law_law_666 ?_
                                replace h := gb1_elim h; obtain ⟨v334, h335, h⟩ := h
                                refine x_iald 667 rfl h335 d_Law_law_667 ?_
                                refine x_aloadn 668 0 d_Law_law_668 rfl rfl ?_
                                refine x_iloadn 669 3 d_Law_law_669 rfl rfl ?_
                                refine x_iconst 670 d_Law_law_670 (v := (3 : Int32)) (by decide +kernel) ?_
                                refine x_iadd 671 d_Law_law_671 ?_
                                replace h := gb1_elim h; obtain ⟨v336, h337, h⟩ := h
                                refine x_iald 672 rfl h337 d_Law_law_672 ?_
                                replace h := gb1_elim h; obtain ⟨b341, h342, h⟩ := h
                                replace h := gb2_elim h; obtain ⟨v338, mm339, h340, h⟩ := h
                                refine x_callV 673 3 (as := [.inl v332, .inl v334, .inl v336]) (st' := [.inl v327]) (rs := [.inl v338]) (k_M_block h340) rfl cf_Law_77 ⟨rfl, by decide +kernel, by decide, by decide, Nat.le_of_ble_eq_true rfl⟩ h342 rfl d_Law_law_673 ?_
                                refine x_icmp_eq 676 947 d_Law_law_676 (by decide) (fun c343 => ?_) (fun c343 => ?_)
                                · replace h := gif_t h c343
                                  replace h := gLet_elim h; obtain ⟨x344, ex344, h⟩ := h
                                  refine x_iinc 947 3 (v := x344) (lv' := [(3, .inl x344), (0, .inr (.inr p0)), (1, .inr (.inr p1)), (2, .inr (.inr p2))]) d_Law_law_947 rfl (by rw [ex344]; rfl) (by decide) rfl ?_
                                  refine x_goto 950 18 d_Law_law_950 (by decide) ?_
                                  refine x_sub [1, 2, 3, 0] rfl ?_
                                  exact ih _ _ _ _ _ h
                                · replace h := gif_f h c343
                                  refine x_sub [] rfl ?_
                                  exact hk679 _ h
                              · replace h := gif_f h c34
                                by_cases c35 : (v20 &&& (31 : Int32)) = 13
                                · replace h := gif_t h c35
                                  refine x_tsIn 33 681 13 (off := 648) c35 d_Law_law_33 (by decide +kernel) (by decide +kernel) (by decide +kernel) (by decide) ?_
                                  refine x_aloadn 681 1 d_Law_law_681 rfl rfl ?_
                                  refine x_aloadn 682 0 d_Law_law_682 rfl rfl ?_
                                  refine x_iloadn 683 3 d_Law_law_683 rfl rfl ?_
                                  refine x_iconst 684 d_Law_law_684 (v := (1 : Int32)) (by decide +kernel) ?_
                                  refine x_iadd 685 d_Law_law_685 ?_
                                  replace h := gb1_elim h; obtain ⟨v345, h346, h⟩ := h
                                  refine x_iald 686 rfl h346 d_Law_law_686 ?_
                                  replace h := gb1_elim h; obtain ⟨b350, h351, h⟩ := h
                                  replace h := gb2_elim h; obtain ⟨v347, mm348, h349, h⟩ := h
                                  refine x_callV 687 1 (as := [.inl v345]) (st' := []) (rs := [.inl v347]) (k_S_number h349) rfl cf_Law_78 ⟨rfl, by decide +kernel, by decide, by decide, Nat.le_of_ble_eq_true rfl⟩ h351 rfl d_Law_law_687 ?_
                                  refine x_aloadn 690 2 d_Law_law_690 rfl rfl ?_
                                  refine x_aloadn 691 0 d_Law_law_691 rfl rfl ?_
                                  refine x_iloadn 692 3 d_Law_law_692 rfl rfl ?_
                                  refine x_iconst 693 d_Law_law_693 (v := (1 : Int32)) (by decide +kernel) ?_
                                  refine x_iadd 694 d_Law_law_694 ?_
                                  replace h := gb1_elim h; obtain ⟨v352, h353, h⟩ := h
                                  refine x_iald 695 rfl h353 d_Law_law_695 ?_
                                  replace h := gb1_elim h; obtain ⟨b357, h358, h⟩ := h
                                  replace h := gb2_elim h; obtain ⟨v354, mm355, h356, h⟩ := h
                                  refine x_callV 696 1 (as := [.inl v352]) (st' := [.inl v347]) (rs := [.inl v354]) (k_M_number h356) rfl cf_Law_81 ⟨rfl, by decide +kernel, by decide, by decide, Nat.le_of_ble_eq_true rfl⟩ h358 rfl d_Law_law_696 ?_
                                  refine x_icmp_eq 699 947 d_Law_law_699 (by decide) (fun c359 => ?_) (fun c359 => ?_)
                                  · replace h := gif_t h c359
                                    replace h := gLet_elim h; obtain ⟨x360, ex360, h⟩ := h
                                    refine x_iinc 947 3 (v := x360) (lv' := [(3, .inl x360), (0, .inr (.inr p0)), (1, .inr (.inr p1)), (2, .inr (.inr p2))]) d_Law_law_947 rfl (by rw [ex360]; rfl) (by decide) rfl ?_
                                    refine x_goto 950 18 d_Law_law_950 (by decide) ?_
                                    refine x_sub [1, 2, 3, 0] rfl ?_
                                    exact ih _ _ _ _ _ h
                                  · replace h := gif_f h c359
                                    refine x_sub [] rfl ?_
                                    exact hk702 _ h
                                · replace h := gif_f h c35
                                  by_cases c36 : (v20 &&& (31 : Int32)) = 14
                                  · replace h := gif_t h c36
                                    refine x_tsIn 33 704 14 (off := 671) c36 d_Law_law_33 (by decide +kernel) (by decide +kernel) (by decide +kernel) (by decide) ?_
                                    refine x_aloadn 704 1 d_Law_law_704 rfl rfl ?_
                                    refine x_aloadn 705 0 d_Law_law_705 rfl rfl ?_
                                    refine x_iloadn 706 3 d_Law_law_706 rfl rfl ?_
                                    refine x_iconst 707 d_Law_law_707 (v := (1 : Int32)) (by decide +kernel) ?_
                                    refine x_iadd 708 d_Law_law_708 ?_
                                    replace h := gb1_elim h; obtain ⟨v361, h362, h⟩ := h
                                    refine x_iald 709 rfl h362 d_Law_law_709 ?_
                                    refine x_aloadn 710 0 d_Law_law_710 rfl rfl ?_
                                    refine x_iloadn 711 3 d_Law_law_711 rfl rfl ?_
                                    refine x_iconst 712 d_Law_law_712 (v := (2 : Int32)) (by decide +kernel) ?_
                                    refine x_iadd 713 d_Law_law_713 ?_
                                    replace h := gb1_elim h; obtain ⟨v363, h364, h⟩ := h
                                    refine x_iald 714 rfl h364 d_Law_law_714 ?_
                                    refine x_aloadn 715 0 d_Law_law_715 rfl rfl ?_
                                    refine x_iloadn 716 3 d_Law_law_716 rfl rfl ?_
                                    refine x_iconst 717 d_Law_law_717 (v := (3 : Int32)) (by decide +kernel) ?_
                                    refine x_iadd 718 d_Law_law_718 ?_
                                    replace h := gb1_elim h; obtain ⟨v365, h366, h⟩ := h
                                    refine x_iald 719 rfl h366 d_Law_law_719 ?_
                                    replace h := gb1_elim h; obtain ⟨b370, h371, h⟩ := h
                                    replace h := gb2_elim h; obtain ⟨v367, mm368, h369, h⟩ := h
                                    refine x_callV 720 3 (as := [.inl v361, .inl v363, .inl v365]) (st' := []) (rs := [.inl v367]) (k_S_lost h369) rfl cf_Law_82 ⟨rfl, by decide +kernel, by decide, by decide, Nat.le_of_ble_eq_true rfl⟩ h371 rfl d_Law_law_720 ?_
                                    refine x_aloadn 723 2 d_Law_law_723 rfl rfl ?_
                                    refine x_aloadn 724 0 d_Law_law_724 rfl rfl ?_
                                    refine x_iloadn 725 3 d_Law_law_725 rfl rfl ?_
                                    refine x_iconst 726 d_Law_law_726 (v := (1 : Int32)) (by decide +kernel) ?_
                                    refine x_iadd 727 d_Law_law_727 ?_
                                    replace h := gb1_elim h; obtain ⟨v372, h373, h⟩ := h
                                    refine x_iald 728 rfl h373 d_Law_law_728 ?_
                                    refine x_aloadn 729 0 d_Law_law_729 rfl rfl ?_
                                    refine x_iloadn 730 3 d_Law_law_730 rfl rfl ?_
                                    refine x_iconst 731 d_Law_law_731 (v := (2 : Int32)) (by decide +kernel) ?_
                                    refine x_iadd 732 d_Law_law_732 ?_
                                    replace h := gb1_elim h; obtain ⟨v374, h375, h⟩ := h
                                    refine x_iald 733 rfl h375 d_Law_law_733 ?_
                                    refine x_aloadn 734 0 d_Law_law_734 rfl rfl ?_
                                    refine x_iloadn 735 3 d_Law_law_735 rfl rfl ?_
                                    refine x_iconst 736 d_Law_law_736 (v := (3 : Int32)) (by decide +kernel) ?_
                                    refine x_iadd 737 d_Law_law_737 ?_
                                    replace h := gb1_elim h; obtain ⟨v376, h377, h⟩ := h
                                    refine x_iald 738 rfl h377 d_Law_law_738 ?_
                                    replace h := gb1_elim h; obtain ⟨b381, h382, h⟩ := h
                                    replace h := gb2_elim h; obtain ⟨v378, mm379, h380, h⟩ := h
                                    refine x_callV 739 3 (as := [.inl v372, .inl v374, .inl v376]) (st' := [.inl v367]) (rs := [.inl v378]) (k_M_lost h380) rfl cf_Law_85 ⟨rfl, by decide +kernel, by decide, by decide, Nat.le_of_ble_eq_true rfl⟩ h382 rfl d_Law_law_739 ?_
                                    refine x_icmp_eq 742 947 d_Law_law_742 (by decide) (fun c383 => ?_) (fun c383 => ?_)
                                    · replace h := gif_t h c383
                                      replace h := gLet_elim h; obtain ⟨x384, ex384, h⟩ := h
                                      refine x_iinc 947 3 (v := x384) (lv' := [(3, .inl x384), (0, .inr (.inr p0)), (1, .inr (.inr p1)), (2, .inr (.inr p2))]) d_Law_law_947 rfl (by rw [ex384]; rfl) (by decide) rfl ?_
                                      refine x_goto 950 18 d_Law_law_950 (by decide) ?_
                                      refine x_sub [1, 2, 3, 0] rfl ?_
                                      exact ih _ _ _ _ _ h
                                    · replace h := gif_f h c383
                                      refine x_sub [] rfl ?_
                                      exact hk745 _ h
                                  · replace h := gif_f h c36
                                    by_cases c37 : (v20 &&& (31 : Int32)) = 15
                                    · replace h := gif_t h c37
                                      refine x_tsIn 33 747 15 (off := 714) c37 d_Law_law_33 (by decide +kernel) (by decide +kernel) (by decide +kernel) (by decide) ?_
                                      refine x_aloadn 747 1 d_Law_law_747 rfl rfl ?_
                                      refine x_aloadn 748 0 d_Law_law_748 rfl rfl ?_
                                      refine x_iloadn 749 3 d_Law_law_749 rfl rfl ?_
                                      refine x_iconst 750 d_Law_law_750 (v := (1 : Int32)) (by decide +kernel) ?_
                                      refine x_iadd 751 d_Law_law_751 ?_
                                      replace h := gb1_elim h; obtain ⟨v385, h386, h⟩ := h
                                      refine x_iald 752 rfl h386 d_Law_law_752 ?_
                                      replace h := gb1_elim h; obtain ⟨b390, h391, h⟩ := h
                                      replace h := gb2_elim h; obtain ⟨v387, mm388, h389, h⟩ := h
                                      refine x_callV 753 1 (as := [.inl v385]) (st' := []) (rs := [.inl v387]) (k_S_close h389) rfl cf_Law_86 ⟨rfl, by decide +kernel, by decide, by decide, Nat.le_of_ble_eq_true rfl⟩ h391 rfl d_Law_law_753 ?_
                                      refine x_aloadn 756 2 d_Law_law_756 rfl rfl ?_
                                      refine x_aloadn 757 0 d_Law_law_757 rfl rfl ?_
                                      refine x_iloadn 758 3 d_Law_law_758 rfl rfl ?_
                                      refine x_iconst 759 d_Law_law_759 (v := (1 : Int32)) (by decide +kernel) ?_
                                      refine x_iadd 760 d_Law_law_760 ?_
                                      replace h := gb1_elim h; obtain ⟨v392, h393, h⟩ := h
                                      refine x_iald 761 rfl h393 d_Law_law_761 ?_
                                      replace h := gb1_elim h; obtain ⟨b397, h398, h⟩ := h
                                      replace h := gb2_elim h; obtain ⟨v394, mm395, h396, h⟩ := h
                                      refine x_callV 762 1 (as := [.inl v392]) (st' := [.inl v387]) (rs := [.inl v394]) (k_M_close h396) rfl cf_Law_89 ⟨rfl, by decide +kernel, by decide, by decide, Nat.le_of_ble_eq_true rfl⟩ h398 rfl d_Law_law_762 ?_
                                      refine x_icmp_eq 765 947 d_Law_law_765 (by decide) (fun c399 => ?_) (fun c399 => ?_)
                                      · replace h := gif_t h c399
                                        replace h := gLet_elim h; obtain ⟨x400, ex400, h⟩ := h
                                        refine x_iinc 947 3 (v := x400) (lv' := [(3, .inl x400), (0, .inr (.inr p0)), (1, .inr (.inr p1)), (2, .inr (.inr p2))]) d_Law_law_947 rfl (by rw [ex400]; rfl) (by decide) rfl ?_
                                        refine x_goto 950 18 d_Law_law_950 (by decide) ?_
                                        refine x_sub [1, 2, 3, 0] rfl ?_
                                        exact ih _ _ _ _ _ h
                                      · replace h := gif_f h c399
                                        refine x_sub [] rfl ?_
                                        exact hk768 _ h
                                    · replace h := gif_f h c37
                                      by_cases c38 : (v20 &&& (31 : Int32)) = 16
                                      · replace h := gif_t h c38
                                        refine x_tsIn 33 770 16 (off := 737) c38 d_Law_law_33 (by decide +kernel) (by decide +kernel) (by decide +kernel) (by decide) ?_
                                        refine x_aloadn 770 1 d_Law_law_770 rfl rfl ?_
                                        refine x_aloadn 771 0 d_Law_law_771 rfl rfl ?_
                                        refine x_iloadn 772 3 d_Law_law_772 rfl rfl ?_
                                        refine x_iconst 773 d_Law_law_773 (v := (1 : Int32)) (by decide +kernel) ?_
                                        refine x_iadd 774 d_Law_law_774 ?_
                                        replace h := gb1_elim h; obtain ⟨v401, h402, h⟩ := h
                                        refine x_iald 775 rfl h402 d_Law_law_775 ?_
                                        refine x_aloadn 776 0 d_Law_law_776 rfl rfl ?_
                                        refine x_iloadn 777 3 d_Law_law_777 rfl rfl ?_
                                        refine x_iconst 778 d_Law_law_778 (v := (2 : Int32)) (by decide +kernel) ?_
                                        refine x_iadd 779 d_Law_law_779 ?_
                                        replace h := gb1_elim h; obtain ⟨v403, h404, h⟩ := h
                                        refine x_iald 780 rfl h404 d_Law_law_780 ?_
                                        refine x_i2l 781 d_Law_law_781 ?_
                                        refine x_bipush 782 d_Law_law_782 (v := (32 : Int32)) (by decide +kernel) ?_
                                        refine x_lshl 784 d_Law_law_784 ?_
                                        refine x_aloadn 785 0 d_Law_law_785 rfl rfl ?_
                                        refine x_iloadn 786 3 d_Law_law_786 rfl rfl ?_
                                        refine x_iconst 787 d_Law_law_787 (v := (3 : Int32)) (by decide +kernel) ?_
                                        refine x_iadd 788 d_Law_law_788 ?_
                                        replace h := gb1_elim h; obtain ⟨v405, h406, h⟩ := h
                                        refine x_iald 789 rfl h406 d_Law_law_789 ?_
                                        refine x_i2l 790 d_Law_law_790 ?_
                                        refine x_ldc2 791 d_Law_law_791 (v := (4294967295 : Int64)) (gT_in4 79 rfl) ?_
                                        refine x_land 794 d_Law_law_794 ?_
                                        refine x_lor 795 d_Law_law_795 ?_
                                        refine x_aloadn 796 0 d_Law_law_796 rfl rfl ?_
                                        refine x_iloadn 797 3 d_Law_law_797 rfl rfl ?_
                                        refine x_iconst 798 d_Law_law_798 (v := (4 : Int32)) (by decide +kernel) ?_
                                        refine x_iadd 799 d_Law_law_799 ?_
                                        replace h := gb1_elim h; obtain ⟨v407, h408, h⟩ := h
                                        refine x_iald 800 rfl h408 d_Law_law_800 ?_
                                        refine x_i2l 801 d_Law_law_801 ?_
                                        refine x_bipush 802 d_Law_law_802 (v := (32 : Int32)) (by decide +kernel) ?_
                                        refine x_lshl 804 d_Law_law_804 ?_
                                        refine x_aloadn 805 0 d_Law_law_805 rfl rfl ?_
                                        refine x_iloadn 806 3 d_Law_law_806 rfl rfl ?_
                                        refine x_iconst 807 d_Law_law_807 (v := (5 : Int32)) (by decide +kernel) ?_
                                        refine x_iadd 808 d_Law_law_808 ?_
                                        replace h := gb1_elim h; obtain ⟨v409, h410, h⟩ := h
                                        refine x_iald 809 rfl h410 d_Law_law_809 ?_
                                        refine x_i2l 810 d_Law_law_810 ?_
                                        refine x_ldc2 811 d_Law_law_811 (v := (4294967295 : Int64)) (gT_in4 79 rfl) ?_
                                        refine x_land 814 d_Law_law_814 ?_
                                        refine x_lor 815 d_Law_law_815 ?_
                                        replace h := gb1_elim h; obtain ⟨b414, h415, h⟩ := h
                                        replace h := gb2_elim h; obtain ⟨v411, mm412, h413, h⟩ := h
                                        refine x_callV 816 3 (as := [.inl v401, .inr (.inl (((v403).toInt64 <<< (((32 : Int32)).toInt64 &&& 63)) ||| ((v405).toInt64 &&& (4294967295 : Int64)))), .inr (.inl (((v407).toInt64 <<< (((32 : Int32)).toInt64 &&& 63)) ||| ((v409).toInt64 &&& (4294967295 : Int64))))]) (st' := []) (rs := [.inl v411]) (k_S_mark h413) rfl cf_Law_90 ⟨rfl, by decide +kernel, by decide, by decide, Nat.le_of_ble_eq_true rfl⟩ h415 rfl d_Law_law_816 ?_
                                        refine x_aloadn 819 2 d_Law_law_819 rfl rfl ?_
                                        refine x_aloadn 820 0 d_Law_law_820 rfl rfl ?_
                                        refine x_iloadn 821 3 d_Law_law_821 rfl rfl ?_
                                        refine x_iconst 822 d_Law_law_822 (v := (1 : Int32)) (by decide +kernel) ?_
                                        refine x_iadd 823 d_Law_law_823 ?_
                                        replace h := gb1_elim h; obtain ⟨v416, h417, h⟩ := h
                                        refine x_iald 824 rfl h417 d_Law_law_824 ?_
                                        refine x_aloadn 825 0 d_Law_law_825 rfl rfl ?_
                                        refine x_iloadn 826 3 d_Law_law_826 rfl rfl ?_
                                        refine x_iconst 827 d_Law_law_827 (v := (2 : Int32)) (by decide +kernel) ?_
                                        refine x_iadd 828 d_Law_law_828 ?_
                                        replace h := gb1_elim h; obtain ⟨v418, h419, h⟩ := h
                                        refine x_iald 829 rfl h419 d_Law_law_829 ?_
                                        refine x_i2l 830 d_Law_law_830 ?_
                                        refine x_bipush 831 d_Law_law_831 (v := (32 : Int32)) (by decide +kernel) ?_
                                        refine x_lshl 833 d_Law_law_833 ?_
                                        refine x_aloadn 834 0 d_Law_law_834 rfl rfl ?_
                                        refine x_iloadn 835 3 d_Law_law_835 rfl rfl ?_
                                        refine x_iconst 836 d_Law_law_836 (v := (3 : Int32)) (by decide +kernel) ?_
                                        refine x_iadd 837 d_Law_law_837 ?_
                                        replace h := gb1_elim h; obtain ⟨v420, h421, h⟩ := h
                                        refine x_iald 838 rfl h421 d_Law_law_838 ?_
                                        refine x_i2l 839 d_Law_law_839 ?_
                                        refine x_ldc2 840 d_Law_law_840 (v := (4294967295 : Int64)) (gT_in4 79 rfl) ?_
                                        refine x_land 843 d_Law_law_843 ?_
                                        refine x_lor 844 d_Law_law_844 ?_
                                        refine x_aloadn 845 0 d_Law_law_845 rfl rfl ?_
                                        refine x_iloadn 846 3 d_Law_law_846 rfl rfl ?_
                                        refine x_iconst 847 d_Law_law_847 (v := (4 : Int32)) (by decide +kernel) ?_
                                        refine x_iadd 848 d_Law_law_848 ?_
                                        replace h := gb1_elim h; obtain ⟨v422, h423, h⟩ := h
                                        refine x_iald 849 rfl h423 d_Law_law_849 ?_
                                        refine x_i2l 850 d_Law_law_850 ?_
                                        refine x_bipush 851 d_Law_law_851 (v := (32 : Int32)) (by decide +kernel) ?_
                                        refine x_lshl 853 d_Law_law_853 ?_
                                        refine x_aloadn 854 0 d_Law_law_854 rfl rfl ?_
                                        refine x_iloadn 855 3 d_Law_law_855 rfl rfl ?_
                                        refine x_iconst 856 d_Law_law_856 (v := (5 : Int32)) (by decide +kernel) ?_
                                        refine x_iadd 857 d_Law_law_857 ?_
                                        replace h := gb1_elim h; obtain ⟨v424, h425, h⟩ := h
                                        refine x_iald 858 rfl h425 d_Law_law_858 ?_
                                        refine x_i2l 859 d_Law_law_859 ?_
                                        refine x_ldc2 860 d_Law_law_860 (v := (4294967295 : Int64)) (gT_in4 79 rfl) ?_
                                        refine x_land 863 d_Law_law_863 ?_
                                        refine x_lor 864 d_Law_law_864 ?_
                                        replace h := gb1_elim h; obtain ⟨b429, h430, h⟩ := h
                                        replace h := gb2_elim h; obtain ⟨v426, mm427, h428, h⟩ := h
                                        refine x_callV 865 3 (as := [.inl v416, .inr (.inl (((v418).toInt64 <<< (((32 : Int32)).toInt64 &&& 63)) ||| ((v420).toInt64 &&& (4294967295 : Int64)))), .inr (.inl (((v422).toInt64 <<< (((32 : Int32)).toInt64 &&& 63)) ||| ((v424).toInt64 &&& (4294967295 : Int64))))]) (st' := [.inl v411]) (rs := [.inl v426]) (k_M_mark h428) rfl cf_Law_94 ⟨rfl, by decide +kernel, by decide, by decide, Nat.le_of_ble_eq_true rfl⟩ h430 rfl d_Law_law_865 ?_
                                        refine x_icmp_eq 868 947 d_Law_law_868 (by decide) (fun c431 => ?_) (fun c431 => ?_)
                                        · replace h := gif_t h c431
                                          replace h := gLet_elim h; obtain ⟨x432, ex432, h⟩ := h
                                          refine x_iinc 947 3 (v := x432) (lv' := [(3, .inl x432), (0, .inr (.inr p0)), (1, .inr (.inr p1)), (2, .inr (.inr p2))]) d_Law_law_947 rfl (by rw [ex432]; rfl) (by decide) rfl ?_
                                          refine x_goto 950 18 d_Law_law_950 (by decide) ?_
                                          refine x_sub [1, 2, 3, 0] rfl ?_
                                          exact ih _ _ _ _ _ h
                                        · replace h := gif_f h c431
                                          refine x_sub [] rfl ?_
                                          exact hk871 _ h
                                      · replace h := gif_f h c38
                                        by_cases c39 : (v20 &&& (31 : Int32)) = 17
                                        · replace h := gif_t h c39
                                          refine x_tsIn 33 873 17 (off := 840) c39 d_Law_law_33 (by decide +kernel) (by decide +kernel) (by decide +kernel) (by decide) ?_
                                          refine x_aloadn 873 1 d_Law_law_873 rfl rfl ?_
                                          refine x_aloadn 874 0 d_Law_law_874 rfl rfl ?_
                                          refine x_iloadn 875 3 d_Law_law_875 rfl rfl ?_
                                          refine x_iconst 876 d_Law_law_876 (v := (1 : Int32)) (by decide +kernel) ?_
                                          refine x_iadd 877 d_Law_law_877 ?_
                                          replace h := gb1_elim h; obtain ⟨v433, h434, h⟩ := h
                                          refine x_iald 878 rfl h434 d_Law_law_878 ?_
                                          refine x_aloadn 879 0 d_Law_law_879 rfl rfl ?_
                                          refine x_iloadn 880 3 d_Law_law_880 rfl rfl ?_
                                          refine x_iconst 881 d_Law_law_881 (v := (2 : Int32)) (by decide +kernel) ?_
                                          refine x_iadd 882 d_Law_law_882 ?_
                                          replace h := gb1_elim h; obtain ⟨v435, h436, h⟩ := h
                                          refine x_iald 883 rfl h436 d_Law_law_883 ?_
                                          refine x_i2l 884 d_Law_law_884 ?_
                                          refine x_bipush 885 d_Law_law_885 (v := (32 : Int32)) (by decide +kernel) ?_
                                          refine x_lshl 887 d_Law_law_887 ?_
                                          refine x_aloadn 888 0 d_Law_law_888 rfl rfl ?_
                                          refine x_iloadn 889 3 d_Law_law_889 rfl rfl ?_
                                          refine x_iconst 890 d_Law_law_890 (v := (3 : Int32)) (by decide +kernel) ?_
                                          refine x_iadd 891 d_Law_law_891 ?_
                                          replace h := gb1_elim h; obtain ⟨v437, h438, h⟩ := h
                                          refine x_iald 892 rfl h438 d_Law_law_892 ?_
                                          refine x_i2l 893 d_Law_law_893 ?_
                                          refine x_ldc2 894 d_Law_law_894 (v := (4294967295 : Int64)) (gT_in4 79 rfl) ?_
                                          refine x_land 897 d_Law_law_897 ?_
                                          refine x_lor 898 d_Law_law_898 ?_
                                          refine x_aloadn 899 0 d_Law_law_899 rfl rfl ?_
                                          refine x_iloadn 900 3 d_Law_law_900 rfl rfl ?_
                                          refine x_iconst 901 d_Law_law_901 (v := (4 : Int32)) (by decide +kernel) ?_
                                          refine x_iadd 902 d_Law_law_902 ?_
                                          replace h := gb1_elim h; obtain ⟨v439, h440, h⟩ := h
                                          refine x_iald 903 rfl h440 d_Law_law_903 ?_
                                          replace h := gb1_elim h; obtain ⟨b444, h445, h⟩ := h
                                          replace h := gb2_elim h; obtain ⟨v441, mm442, h443, h⟩ := h
                                          refine x_callV 904 3 (as := [.inl v433, .inr (.inl (((v435).toInt64 <<< (((32 : Int32)).toInt64 &&& 63)) ||| ((v437).toInt64 &&& (4294967295 : Int64)))), .inl v439]) (st' := []) (rs := [.inr (.inl v441)]) (k_S_corrected h443) rfl cf_Law_95 ⟨rfl, by decide +kernel, by decide, by decide, Nat.le_of_ble_eq_true rfl⟩ h445 rfl d_Law_law_904 ?_
                                          refine x_aloadn 907 2 d_Law_law_907 rfl rfl ?_
                                          refine x_aloadn 908 0 d_Law_law_908 rfl rfl ?_
                                          refine x_iloadn 909 3 d_Law_law_909 rfl rfl ?_
                                          refine x_iconst 910 d_Law_law_910 (v := (1 : Int32)) (by decide +kernel) ?_
                                          refine x_iadd 911 d_Law_law_911 ?_
                                          replace h := gb1_elim h; obtain ⟨v446, h447, h⟩ := h
                                          refine x_iald 912 rfl h447 d_Law_law_912 ?_
                                          refine x_aloadn 913 0 d_Law_law_913 rfl rfl ?_
                                          refine x_iloadn 914 3 d_Law_law_914 rfl rfl ?_
                                          refine x_iconst 915 d_Law_law_915 (v := (2 : Int32)) (by decide +kernel) ?_
                                          refine x_iadd 916 d_Law_law_916 ?_
                                          replace h := gb1_elim h; obtain ⟨v448, h449, h⟩ := h
                                          refine x_iald 917 rfl h449 d_Law_law_917 ?_
                                          refine x_i2l 918 d_Law_law_918 ?_
                                          refine x_bipush 919 d_Law_law_919 (v := (32 : Int32)) (by decide +kernel) ?_
                                          refine x_lshl 921 d_Law_law_921 ?_
                                          refine x_aloadn 922 0 d_Law_law_922 rfl rfl ?_
                                          refine x_iloadn 923 3 d_Law_law_923 rfl rfl ?_
                                          refine x_iconst 924 d_Law_law_924 (v := (3 : Int32)) (by decide +kernel) ?_
                                          refine x_iadd 925 d_Law_law_925 ?_
                                          replace h := gb1_elim h; obtain ⟨v450, h451, h⟩ := h
                                          refine x_iald 926 rfl h451 d_Law_law_926 ?_
                                          refine x_i2l 927 d_Law_law_927 ?_
                                          refine x_ldc2 928 d_Law_law_928 (v := (4294967295 : Int64)) (gT_in4 79 rfl) ?_
                                          refine x_land 931 d_Law_law_931 ?_
                                          refine x_lor 932 d_Law_law_932 ?_
                                          refine x_aloadn 933 0 d_Law_law_933 rfl rfl ?_
                                          refine x_iloadn 934 3 d_Law_law_934 rfl rfl ?_
                                          refine x_iconst 935 d_Law_law_935 (v := (4 : Int32)) (by decide +kernel) ?_
                                          refine x_iadd 936 d_Law_law_936 ?_
                                          replace h := gb1_elim h; obtain ⟨v452, h453, h⟩ := h
                                          refine x_iald 937 rfl h453 d_Law_law_937 ?_
                                          replace h := gb1_elim h; obtain ⟨b457, h458, h⟩ := h
                                          replace h := gb2_elim h; obtain ⟨v454, mm455, h456, h⟩ := h
                                          refine x_callV 938 3 (as := [.inl v446, .inr (.inl (((v448).toInt64 <<< (((32 : Int32)).toInt64 &&& 63)) ||| ((v450).toInt64 &&& (4294967295 : Int64)))), .inl v452]) (st' := [.inr (.inl v441)]) (rs := [.inr (.inl v454)]) (k_M_corrected h456) rfl cf_Law_99 ⟨rfl, by decide +kernel, by decide, by decide, Nat.le_of_ble_eq_true rfl⟩ h458 rfl d_Law_law_938 ?_
                                          refine x_lc_eq 941 947 d_Law_law_941 d_Law_law_942 (by decide) (fun c459 => ?_) (fun c459 => ?_)
                                          · replace h := gif_t h c459
                                            replace h := gLet_elim h; obtain ⟨x460, ex460, h⟩ := h
                                            refine x_iinc 947 3 (v := x460) (lv' := [(3, .inl x460), (0, .inr (.inr p0)), (1, .inr (.inr p1)), (2, .inr (.inr p2))]) d_Law_law_947 rfl (by rw [ex460]; rfl) (by decide) rfl ?_
                                            refine x_goto 950 18 d_Law_law_950 (by decide) ?_
                                            refine x_sub [1, 2, 3, 0] rfl ?_
                                            exact ih _ _ _ _ _ h
                                          · replace h := gif_f h c459
                                            refine x_sub [] rfl ?_
                                            exact hk945 _ h
                                        · replace h := gif_f h c39
                                          have nc22 := g_ne (0 : Int32) c22
                                          have nc23 := g_ne (1 : Int32) c23
                                          have nc24 := g_ne (2 : Int32) c24
                                          have nc25 := g_ne (3 : Int32) c25
                                          have nc26 := g_ne (4 : Int32) c26
                                          have nc27 := g_ne (5 : Int32) c27
                                          have nc28 := g_ne (6 : Int32) c28
                                          have nc29 := g_ne (7 : Int32) c29
                                          have nc30 := g_ne (8 : Int32) c30
                                          have nc31 := g_ne (9 : Int32) c31
                                          have nc32 := g_ne (10 : Int32) c32
                                          have nc33 := g_ne (11 : Int32) c33
                                          have nc34 := g_ne (12 : Int32) c34
                                          have nc35 := g_ne (13 : Int32) c35
                                          have nc36 := g_ne (14 : Int32) c36
                                          have nc37 := g_ne (15 : Int32) c37
                                          have nc38 := g_ne (16 : Int32) c38
                                          have nc39 := g_ne (17 : Int32) c39
                                          rw [show ((0 : Int32)).toInt = 0 by decide +kernel] at nc22
                                          rw [show ((1 : Int32)).toInt = 1 by decide +kernel] at nc23
                                          rw [show ((2 : Int32)).toInt = 2 by decide +kernel] at nc24
                                          rw [show ((3 : Int32)).toInt = 3 by decide +kernel] at nc25
                                          rw [show ((4 : Int32)).toInt = 4 by decide +kernel] at nc26
                                          rw [show ((5 : Int32)).toInt = 5 by decide +kernel] at nc27
                                          rw [show ((6 : Int32)).toInt = 6 by decide +kernel] at nc28
                                          rw [show ((7 : Int32)).toInt = 7 by decide +kernel] at nc29
                                          rw [show ((8 : Int32)).toInt = 8 by decide +kernel] at nc30
                                          rw [show ((9 : Int32)).toInt = 9 by decide +kernel] at nc31
                                          rw [show ((10 : Int32)).toInt = 10 by decide +kernel] at nc32
                                          rw [show ((11 : Int32)).toInt = 11 by decide +kernel] at nc33
                                          rw [show ((12 : Int32)).toInt = 12 by decide +kernel] at nc34
                                          rw [show ((13 : Int32)).toInt = 13 by decide +kernel] at nc35
                                          rw [show ((14 : Int32)).toInt = 14 by decide +kernel] at nc36
                                          rw [show ((15 : Int32)).toInt = 15 by decide +kernel] at nc37
                                          rw [show ((16 : Int32)).toInt = 16 by decide +kernel] at nc38
                                          rw [show ((17 : Int32)).toInt = 17 by decide +kernel] at nc39
                                          refine x_tsOut 33 947 d_Law_law_33 (by omega) (by decide) ?_
                                          replace h := gLet_elim h; obtain ⟨x461, ex461, h⟩ := h
                                          refine x_iinc 947 3 (v := x461) (lv' := [(3, .inl x461), (0, .inr (.inr p0)), (1, .inr (.inr p1)), (2, .inr (.inr p2))]) d_Law_law_947 rfl (by rw [ex461]; rfl) (by decide) rfl ?_
                                          refine x_goto 950 18 d_Law_law_950 (by decide) ?_
                                          refine x_sub [1, 2, 3, 0] rfl ?_
                                          exact ih _ _ _ _ _ h
def F_Law_law (a0 : Option Nat) (mm : gM) : Option (Int32 × gM) :=
  gb2 (gnO 0 [.null, .null, .null, .null, .null, .null, .int 0] 7 mm) fun v1 mm3 =>
  gb1 v1 fun b7 =>
  gb2 (F_S_init b7  mm3) fun v4 mm5 =>
  gb2 (gnO 10 [.int 0, .null, .int 0, .null, .null, .null, .null, .null, .null, .int 0, .null, .null, .null, .int 0, .null, .null, .null, .null, .null, .null, .null, .null, .null, .null, .null, .null, .null] 27 mm5) fun v9 mm11 =>
  gb1 v9 fun b15 =>
  gb2 (F_M_init b15  mm11) fun v12 mm13 =>
  L_Law_law_18 (fun  mm =>
    some ((0 : Int32), mm)) (fun  mm =>
    some ((0 : Int32), mm)) (fun  mm =>
    some ((0 : Int32), mm)) (fun  mm =>
    some ((0 : Int32), mm)) (fun  mm =>
    some ((0 : Int32), mm)) (fun  mm =>
    some ((0 : Int32), mm)) (fun  mm =>
    some ((0 : Int32), mm)) (fun  mm =>
    some ((0 : Int32), mm)) (fun  mm =>
    some ((0 : Int32), mm)) (fun  mm =>
    some ((0 : Int32), mm)) (fun  mm =>
    some ((0 : Int32), mm)) (fun  mm =>
    some ((0 : Int32), mm)) (fun  mm =>
    some ((0 : Int32), mm)) (fun  mm =>
    some ((0 : Int32), mm)) (fun  mm =>
    some ((0 : Int32), mm)) (fun  mm =>
    some ((0 : Int32), mm)) (fun  mm =>
    some ((0 : Int32), mm)) (fun  mm =>
    some ((0 : Int32), mm)) (fun  mm =>
    some ((1 : Int32), mm)) gF a0 (some b7) (some b15) (0 : Int32) mm13
set_option maxHeartbeats 8000000 in
set_option maxRecDepth 100000 in
theorem w_Law_law {l : Launch} {E : gD} {n0 s0 : Nat} {a0 : Option Nat} {r : Int32} {mm res : gM} (h : F_Law_law a0 mm = some (r, res)) : xX l E Y_Law_law n0 s0 (some (.int r)) res 0 [(0, .inr (.inr a0))] [] mm := by
  unfold F_Law_law at h
  replace h := gb2_elim h; obtain ⟨v1, mm3, h2, h⟩ := h
  refine x_new 0 nw_Law_7 h2 d_Law_law_0 ?_
  refine x_dup 3 d_Law_law_3 rfl ?_
  replace h := gb1_elim h; obtain ⟨b7, h8, h⟩ := h
  subst h8
  replace h := gb2_elim h; obtain ⟨v4, mm5, h6, h⟩ := h
  refine x_callI 4 0 (as := []) (st' := [.inr (.inr (some b7))]) (k_S_init h6) cf_Law_9 ⟨rfl, by decide +kernel, by decide, by decide, Nat.le_of_ble_eq_true rfl⟩ rfl d_Law_law_4 ?_
  refine x_astoren 7 (lv' := [(1, .inr (.inr (some b7))), (0, .inr (.inr a0))]) d_Law_law_7 rfl (by decide) rfl ?_
  replace h := gb2_elim h; obtain ⟨v9, mm11, h10, h⟩ := h
  refine x_new 8 nw_Law_10 h10 d_Law_law_8 ?_
  refine x_dup 11 d_Law_law_11 rfl ?_
  replace h := gb1_elim h; obtain ⟨b15, h16, h⟩ := h
  subst h16
  replace h := gb2_elim h; obtain ⟨v12, mm13, h14, h⟩ := h
  refine x_callI 12 0 (as := []) (st' := [.inr (.inr (some b15))]) (k_M_init h14) cf_Law_12 ⟨rfl, by decide +kernel, by decide, by decide, Nat.le_of_ble_eq_true rfl⟩ rfl d_Law_law_12 ?_
  refine x_astoren 15 (lv' := [(2, .inr (.inr (some b15))), (1, .inr (.inr (some b7))), (0, .inr (.inr a0))]) d_Law_law_15 rfl (by decide) rfl ?_
  refine x_iconst 16 d_Law_law_16 (v := (0 : Int32)) (by decide +kernel) ?_
  refine x_istoren 17 (lv' := [(3, .inl (0 : Int32)), (2, .inr (.inr (some b15))), (1, .inr (.inr (some b7))), (0, .inr (.inr a0))]) d_Law_law_17 rfl (by decide) rfl ?_
  refine x_sub [3, 2, 1, 0] rfl ?_
  refine wL_Law_law_18 ?_ ?_ ?_ ?_ ?_ ?_ ?_ ?_ ?_ ?_ ?_ ?_ ?_ ?_ ?_ ?_ ?_ ?_ ?_ gF _ _ _ _ _ h
  · intro  mm h
    refine x_iconst 131 d_Law_law_131 (v := (0 : Int32)) (by decide +kernel) ?_
    cases h
    exact x_zreturn 132 (by decide) rfl d_Law_law_132
  · intro  mm h
    refine x_iconst 238 d_Law_law_238 (v := (0 : Int32)) (by decide +kernel) ?_
    cases h
    exact x_zreturn 239 (by decide) rfl d_Law_law_239
  · intro  mm h
    refine x_iconst 261 d_Law_law_261 (v := (0 : Int32)) (by decide +kernel) ?_
    cases h
    exact x_zreturn 262 (by decide) rfl d_Law_law_262
  · intro  mm h
    refine x_iconst 294 d_Law_law_294 (v := (0 : Int32)) (by decide +kernel) ?_
    cases h
    exact x_zreturn 295 (by decide) rfl d_Law_law_295
  · intro  mm h
    refine x_iconst 327 d_Law_law_327 (v := (0 : Int32)) (by decide +kernel) ?_
    cases h
    exact x_zreturn 328 (by decide) rfl d_Law_law_328
  · intro  mm h
    refine x_iconst 381 d_Law_law_381 (v := (0 : Int32)) (by decide +kernel) ?_
    cases h
    exact x_zreturn 382 (by decide) rfl d_Law_law_382
  · intro  mm h
    refine x_iconst 424 d_Law_law_424 (v := (0 : Int32)) (by decide +kernel) ?_
    cases h
    exact x_zreturn 425 (by decide) rfl d_Law_law_425
  · intro  mm h
    refine x_iconst 477 d_Law_law_477 (v := (0 : Int32)) (by decide +kernel) ?_
    cases h
    exact x_zreturn 478 (by decide) rfl d_Law_law_478
  · intro  mm h
    refine x_iconst 500 d_Law_law_500 (v := (0 : Int32)) (by decide +kernel) ?_
    cases h
    exact x_zreturn 501 (by decide) rfl d_Law_law_501
  · intro  mm h
    refine x_iconst 523 d_Law_law_523 (v := (0 : Int32)) (by decide +kernel) ?_
    cases h
    exact x_zreturn 524 (by decide) rfl d_Law_law_524
  · intro  mm h
    refine x_iconst 582 d_Law_law_582 (v := (0 : Int32)) (by decide +kernel) ?_
    cases h
    exact x_zreturn 583 (by decide) rfl d_Law_law_583
  · intro  mm h
    refine x_iconst 636 d_Law_law_636 (v := (0 : Int32)) (by decide +kernel) ?_
    cases h
    exact x_zreturn 637 (by decide) rfl d_Law_law_637
  · intro  mm h
    refine x_iconst 679 d_Law_law_679 (v := (0 : Int32)) (by decide +kernel) ?_
    cases h
    exact x_zreturn 680 (by decide) rfl d_Law_law_680
  · intro  mm h
    refine x_iconst 702 d_Law_law_702 (v := (0 : Int32)) (by decide +kernel) ?_
    cases h
    exact x_zreturn 703 (by decide) rfl d_Law_law_703
  · intro  mm h
    refine x_iconst 745 d_Law_law_745 (v := (0 : Int32)) (by decide +kernel) ?_
    cases h
    exact x_zreturn 746 (by decide) rfl d_Law_law_746
  · intro  mm h
    refine x_iconst 768 d_Law_law_768 (v := (0 : Int32)) (by decide +kernel) ?_
    cases h
    exact x_zreturn 769 (by decide) rfl d_Law_law_769
  · intro  mm h
    refine x_iconst 871 d_Law_law_871 (v := (0 : Int32)) (by decide +kernel) ?_
    cases h
    exact x_zreturn 872 (by decide) rfl d_Law_law_872
  · intro  mm h
    refine x_iconst 945 d_Law_law_945 (v := (0 : Int32)) (by decide +kernel) ?_
    cases h
    exact x_zreturn 946 (by decide) rfl d_Law_law_946
  · intro  mm h
    refine x_iconst 953 d_Law_law_953 (v := (1 : Int32)) (by decide +kernel) ?_
    cases h
    exact x_zreturn 954 (by decide) rfl d_Law_law_954
