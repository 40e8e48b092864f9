theorem dLW_law_0 : decode code 0 = .ok (.new 7, 3) := by decide +kernel
theorem dLW_law_3 : decode code 3 = .ok (.dup, 1) := by decide +kernel
theorem dLW_law_4 : decode code 4 = .ok (.invokespecial 9, 3) := by decide +kernel
theorem dLW_law_7 : decode code 7 = .ok (.astore_n 1, 1) := by decide +kernel
theorem dLW_law_8 : decode code 8 = .ok (.new 10, 3) := by decide +kernel
theorem dLW_law_11 : decode code 11 = .ok (.dup, 1) := by decide +kernel
theorem dLW_law_12 : decode code 12 = .ok (.invokespecial 12, 3) := by decide +kernel
theorem dLW_law_15 : decode code 15 = .ok (.astore_n 2, 1) := by decide +kernel
theorem dLW_law_16 : decode code 16 = .ok (.iconst 0, 1) := by decide +kernel
theorem dLW_law_17 : decode code 17 = .ok (.istore_n 3, 1) := by decide +kernel
theorem dLW_law_18 : decode code 18 = .ok (.iload_n 3, 1) := by decide +kernel
theorem dLW_law_19 : decode code 19 = .ok (.aload_n 0, 1) := by decide +kernel
theorem dLW_law_20 : decode code 20 = .ok (.arraylength, 1) := by decide +kernel
theorem dLW_law_21 : decode code 21 = .ok (.bipush 6, 2) := by decide +kernel
theorem dLW_law_23 : decode code 23 = .ok (.isub, 1) := by decide +kernel
theorem dLW_law_24 : decode code 24 = .ok (.if_icmp .gt 808, 3) := by decide +kernel
theorem dLW_law_27 : decode code 27 = .ok (.aload_n 0, 1) := by decide +kernel
theorem dLW_law_28 : decode code 28 = .ok (.iload_n 3, 1) := by decide +kernel
theorem dLW_law_29 : decode code 29 = .ok (.iaload, 1) := by decide +kernel
theorem dLW_law_30 : decode code 30 = .ok (.bipush 31, 2) := by decide +kernel
theorem dLW_law_32 : decode code 32 = .ok (.iand, 1) := by decide +kernel
theorem dLW_law_33 : decode code 33 = .ok (.tableswitch 793 0 17 #[87, 110, 163, 216, 279, 322, 345, 398, 461, 474, 487, 541, 595, 618, 662, 686, 709, 770], 87) := by decide +kernel
theorem dLW_law_120 : decode code 120 = .ok (.aload_n 1, 1) := by decide +kernel
theorem dLW_law_121 : decode code 121 = .ok (.aload_n 0, 1) := by decide +kernel
theorem dLW_law_122 : decode code 122 = .ok (.iload_n 3, 1) := by decide +kernel
theorem dLW_law_123 : decode code 123 = .ok (.iconst 1, 1) := by decide +kernel
theorem dLW_law_124 : decode code 124 = .ok (.iadd, 1) := by decide +kernel
theorem dLW_law_125 : decode code 125 = .ok (.iaload, 1) := by decide +kernel
theorem dLW_law_126 : decode code 126 = .ok (.invokevirtual 13, 3) := by decide +kernel
theorem dLW_law_129 : decode code 129 = .ok (.aload_n 2, 1) := by decide +kernel
theorem dLW_law_130 : decode code 130 = .ok (.aload_n 0, 1) := by decide +kernel
theorem dLW_law_131 : decode code 131 = .ok (.iload_n 3, 1) := by decide +kernel
theorem dLW_law_132 : decode code 132 = .ok (.iconst 1, 1) := by decide +kernel
theorem dLW_law_133 : decode code 133 = .ok (.iadd, 1) := by decide +kernel
theorem dLW_law_134 : decode code 134 = .ok (.iaload, 1) := by decide +kernel
theorem dLW_law_135 : decode code 135 = .ok (.invokevirtual 17, 3) := by decide +kernel
theorem dLW_law_138 : decode code 138 = .ok (.if_icmp .eq 688, 3) := by decide +kernel
theorem dLW_law_141 : decode code 141 = .ok (.iconst 0, 1) := by decide +kernel
theorem dLW_law_142 : decode code 142 = .ok (.ireturn, 1) := by decide +kernel
theorem dLW_law_143 : decode code 143 = .ok (.aload_n 1, 1) := by decide +kernel
theorem dLW_law_144 : decode code 144 = .ok (.aload_n 0, 1) := by decide +kernel
theorem dLW_law_145 : decode code 145 = .ok (.iload_n 3, 1) := by decide +kernel
theorem dLW_law_146 : decode code 146 = .ok (.iconst 1, 1) := by decide +kernel
theorem dLW_law_147 : decode code 147 = .ok (.iadd, 1) := by decide +kernel
theorem dLW_law_148 : decode code 148 = .ok (.iaload, 1) := by decide +kernel
theorem dLW_law_149 : decode code 149 = .ok (.aload_n 0, 1) := by decide +kernel
theorem dLW_law_150 : decode code 150 = .ok (.iload_n 3, 1) := by decide +kernel
theorem dLW_law_151 : decode code 151 = .ok (.iconst 2, 1) := by decide +kernel
theorem dLW_law_152 : decode code 152 = .ok (.iadd, 1) := by decide +kernel
theorem dLW_law_153 : decode code 153 = .ok (.iaload, 1) := by decide +kernel
theorem dLW_law_154 : decode code 154 = .ok (.aload_n 0, 1) := by decide +kernel
theorem dLW_law_155 : decode code 155 = .ok (.iload_n 3, 1) := by decide +kernel
theorem dLW_law_156 : decode code 156 = .ok (.iconst 3, 1) := by decide +kernel
theorem dLW_law_157 : decode code 157 = .ok (.iadd, 1) := by decide +kernel
theorem dLW_law_158 : decode code 158 = .ok (.iaload, 1) := by decide +kernel
theorem dLW_law_159 : decode code 159 = .ok (.aload_n 0, 1) := by decide +kernel
theorem dLW_law_160 : decode code 160 = .ok (.iload_n 3, 1) := by decide +kernel
theorem dLW_law_161 : decode code 161 = .ok (.iconst 4, 1) := by decide +kernel
theorem dLW_law_162 : decode code 162 = .ok (.iadd, 1) := by decide +kernel
theorem dLW_law_163 : decode code 163 = .ok (.iaload, 1) := by decide +kernel
theorem dLW_law_164 : decode code 164 = .ok (.invokevirtual 18, 3) := by decide +kernel
theorem dLW_law_167 : decode code 167 = .ok (.aload_n 2, 1) := by decide +kernel
theorem dLW_law_168 : decode code 168 = .ok (.aload_n 0, 1) := by decide +kernel
theorem dLW_law_169 : decode code 169 = .ok (.iload_n 3, 1) := by decide +kernel
theorem dLW_law_170 : decode code 170 = .ok (.iconst 1, 1) := by decide +kernel
theorem dLW_law_171 : decode code 171 = .ok (.iadd, 1) := by decide +kernel
theorem dLW_law_172 : decode code 172 = .ok (.iaload, 1) := by decide +kernel
theorem dLW_law_173 : decode code 173 = .ok (.aload_n 0, 1) := by decide +kernel
theorem dLW_law_174 : decode code 174 = .ok (.iload_n 3, 1) := by decide +kernel
theorem dLW_law_175 : decode code 175 = .ok (.iconst 2, 1) := by decide +kernel
theorem dLW_law_176 : decode code 176 = .ok (.iadd, 1) := by decide +kernel
theorem dLW_law_177 : decode code 177 = .ok (.iaload, 1) := by decide +kernel
theorem dLW_law_178 : decode code 178 = .ok (.aload_n 0, 1) := by decide +kernel
theorem dLW_law_179 : decode code 179 = .ok (.iload_n 3, 1) := by decide +kernel
theorem dLW_law_180 : decode code 180 = .ok (.iconst 3, 1) := by decide +kernel
theorem dLW_law_181 : decode code 181 = .ok (.iadd, 1) := by decide +kernel
theorem dLW_law_182 : decode code 182 = .ok (.iaload, 1) := by decide +kernel
theorem dLW_law_183 : decode code 183 = .ok (.aload_n 0, 1) := by decide +kernel
theorem dLW_law_184 : decode code 184 = .ok (.iload_n 3, 1) := by decide +kernel
theorem dLW_law_185 : decode code 185 = .ok (.iconst 4, 1) := by decide +kernel
theorem dLW_law_186 : decode code 186 = .ok (.iadd, 1) := by decide +kernel
theorem dLW_law_187 : decode code 187 = .ok (.iaload, 1) := by decide +kernel
theorem dLW_law_188 : decode code 188 = .ok (.invokevirtual 22, 3) := by decide +kernel
theorem dLW_law_191 : decode code 191 = .ok (.if_icmp .eq 635, 3) := by decide +kernel
theorem dLW_law_194 : decode code 194 = .ok (.iconst 0, 1) := by decide +kernel
theorem dLW_law_195 : decode code 195 = .ok (.ireturn, 1) := by decide +kernel
theorem dLW_law_196 : decode code 196 = .ok (.aload_n 1, 1) := by decide +kernel
theorem dLW_law_197 : decode code 197 = .ok (.aload_n 0, 1) := by decide +kernel
theorem dLW_law_198 : decode code 198 = .ok (.iload_n 3, 1) := by decide +kernel
theorem dLW_law_199 : decode code 199 = .ok (.iconst 1, 1) := by decide +kernel
theorem dLW_law_200 : decode code 200 = .ok (.iadd, 1) := by decide +kernel
theorem dLW_law_201 : decode code 201 = .ok (.iaload, 1) := by decide +kernel
theorem dLW_law_202 : decode code 202 = .ok (.aload_n 0, 1) := by decide +kernel
theorem dLW_law_203 : decode code 203 = .ok (.iload_n 3, 1) := by decide +kernel
theorem dLW_law_204 : decode code 204 = .ok (.iconst 2, 1) := by decide +kernel
theorem dLW_law_205 : decode code 205 = .ok (.iadd, 1) := by decide +kernel
theorem dLW_law_206 : decode code 206 = .ok (.iaload, 1) := by decide +kernel
theorem dLW_law_207 : decode code 207 = .ok (.aload_n 0, 1) := by decide +kernel
theorem dLW_law_208 : decode code 208 = .ok (.iload_n 3, 1) := by decide +kernel
theorem dLW_law_209 : decode code 209 = .ok (.iconst 3, 1) := by decide +kernel
theorem dLW_law_210 : decode code 210 = .ok (.iadd, 1) := by decide +kernel
theorem dLW_law_211 : decode code 211 = .ok (.iaload, 1) := by decide +kernel
theorem dLW_law_212 : decode code 212 = .ok (.aload_n 0, 1) := by decide +kernel
theorem dLW_law_213 : decode code 213 = .ok (.iload_n 3, 1) := by decide +kernel
theorem dLW_law_214 : decode code 214 = .ok (.iconst 4, 1) := by decide +kernel
theorem dLW_law_215 : decode code 215 = .ok (.iadd, 1) := by decide +kernel
theorem dLW_law_216 : decode code 216 = .ok (.iaload, 1) := by decide +kernel
theorem dLW_law_217 : decode code 217 = .ok (.invokevirtual 23, 3) := by decide +kernel
theorem dLW_law_220 : decode code 220 = .ok (.aload_n 2, 1) := by decide +kernel
theorem dLW_law_221 : decode code 221 = .ok (.aload_n 0, 1) := by decide +kernel
theorem dLW_law_222 : decode code 222 = .ok (.iload_n 3, 1) := by decide +kernel
theorem dLW_law_223 : decode code 223 = .ok (.iconst 1, 1) := by decide +kernel
theorem dLW_law_224 : decode code 224 = .ok (.iadd, 1) := by decide +kernel
theorem dLW_law_225 : decode code 225 = .ok (.iaload, 1) := by decide +kernel
theorem dLW_law_226 : decode code 226 = .ok (.aload_n 0, 1) := by decide +kernel
theorem dLW_law_227 : decode code 227 = .ok (.iload_n 3, 1) := by decide +kernel
theorem dLW_law_228 : decode code 228 = .ok (.iconst 2, 1) := by decide +kernel
theorem dLW_law_229 : decode code 229 = .ok (.iadd, 1) := by decide +kernel
theorem dLW_law_230 : decode code 230 = .ok (.iaload, 1) := by decide +kernel
theorem dLW_law_231 : decode code 231 = .ok (.aload_n 0, 1) := by decide +kernel
theorem dLW_law_232 : decode code 232 = .ok (.iload_n 3, 1) := by decide +kernel
theorem dLW_law_233 : decode code 233 = .ok (.iconst 3, 1) := by decide +kernel
theorem dLW_law_234 : decode code 234 = .ok (.iadd, 1) := by decide +kernel
theorem dLW_law_235 : decode code 235 = .ok (.iaload, 1) := by decide +kernel
theorem dLW_law_236 : decode code 236 = .ok (.aload_n 0, 1) := by decide +kernel
theorem dLW_law_237 : decode code 237 = .ok (.iload_n 3, 1) := by decide +kernel
theorem dLW_law_238 : decode code 238 = .ok (.iconst 4, 1) := by decide +kernel
theorem dLW_law_239 : decode code 239 = .ok (.iadd, 1) := by decide +kernel
theorem dLW_law_240 : decode code 240 = .ok (.iaload, 1) := by decide +kernel
theorem dLW_law_241 : decode code 241 = .ok (.invokevirtual 26, 3) := by decide +kernel
theorem dLW_law_244 : decode code 244 = .ok (.if_icmp .eq 582, 3) := by decide +kernel
theorem dLW_law_247 : decode code 247 = .ok (.iconst 0, 1) := by decide +kernel
theorem dLW_law_248 : decode code 248 = .ok (.ireturn, 1) := by decide +kernel
theorem dLW_law_249 : decode code 249 = .ok (.aload_n 1, 1) := by decide +kernel
theorem dLW_law_250 : decode code 250 = .ok (.aload_n 0, 1) := by decide +kernel
theorem dLW_law_251 : decode code 251 = .ok (.iload_n 3, 1) := by decide +kernel
theorem dLW_law_252 : decode code 252 = .ok (.iconst 1, 1) := by decide +kernel
theorem dLW_law_253 : decode code 253 = .ok (.iadd, 1) := by decide +kernel
theorem dLW_law_254 : decode code 254 = .ok (.iaload, 1) := by decide +kernel
theorem dLW_law_255 : decode code 255 = .ok (.aload_n 0, 1) := by decide +kernel
theorem dLW_law_256 : decode code 256 = .ok (.iload_n 3, 1) := by decide +kernel
theorem dLW_law_257 : decode code 257 = .ok (.iconst 2, 1) := by decide +kernel
theorem dLW_law_258 : decode code 258 = .ok (.iadd, 1) := by decide +kernel
theorem dLW_law_259 : decode code 259 = .ok (.iaload, 1) := by decide +kernel
theorem dLW_law_260 : decode code 260 = .ok (.aload_n 0, 1) := by decide +kernel
theorem dLW_law_261 : decode code 261 = .ok (.iload_n 3, 1) := by decide +kernel
theorem dLW_law_262 : decode code 262 = .ok (.iconst 3, 1) := by decide +kernel
theorem dLW_law_263 : decode code 263 = .ok (.iadd, 1) := by decide +kernel
theorem dLW_law_264 : decode code 264 = .ok (.iaload, 1) := by decide +kernel
theorem dLW_law_265 : decode code 265 = .ok (.aload_n 0, 1) := by decide +kernel
theorem dLW_law_266 : decode code 266 = .ok (.iload_n 3, 1) := by decide +kernel
theorem dLW_law_267 : decode code 267 = .ok (.iconst 4, 1) := by decide +kernel
theorem dLW_law_268 : decode code 268 = .ok (.iadd, 1) := by decide +kernel
theorem dLW_law_269 : decode code 269 = .ok (.iaload, 1) := by decide +kernel
theorem dLW_law_270 : decode code 270 = .ok (.aload_n 0, 1) := by decide +kernel
theorem dLW_law_271 : decode code 271 = .ok (.iload_n 3, 1) := by decide +kernel
theorem dLW_law_272 : decode code 272 = .ok (.iconst 5, 1) := by decide +kernel
theorem dLW_law_273 : decode code 273 = .ok (.iadd, 1) := by decide +kernel
theorem dLW_law_274 : decode code 274 = .ok (.iaload, 1) := by decide +kernel
theorem dLW_law_275 : decode code 275 = .ok (.invokevirtual 27, 3) := by decide +kernel
theorem dLW_law_278 : decode code 278 = .ok (.aload_n 2, 1) := by decide +kernel
theorem dLW_law_279 : decode code 279 = .ok (.aload_n 0, 1) := by decide +kernel
theorem dLW_law_280 : decode code 280 = .ok (.iload_n 3, 1) := by decide +kernel
theorem dLW_law_281 : decode code 281 = .ok (.iconst 1, 1) := by decide +kernel
theorem dLW_law_282 : decode code 282 = .ok (.iadd, 1) := by decide +kernel
theorem dLW_law_283 : decode code 283 = .ok (.iaload, 1) := by decide +kernel
theorem dLW_law_284 : decode code 284 = .ok (.aload_n 0, 1) := by decide +kernel
theorem dLW_law_285 : decode code 285 = .ok (.iload_n 3, 1) := by decide +kernel
theorem dLW_law_286 : decode code 286 = .ok (.iconst 2, 1) := by decide +kernel
theorem dLW_law_287 : decode code 287 = .ok (.iadd, 1) := by decide +kernel
theorem dLW_law_288 : decode code 288 = .ok (.iaload, 1) := by decide +kernel
theorem dLW_law_289 : decode code 289 = .ok (.aload_n 0, 1) := by decide +kernel
theorem dLW_law_290 : decode code 290 = .ok (.iload_n 3, 1) := by decide +kernel
theorem dLW_law_291 : decode code 291 = .ok (.iconst 3, 1) := by decide +kernel
theorem dLW_law_292 : decode code 292 = .ok (.iadd, 1) := by decide +kernel
theorem dLW_law_293 : decode code 293 = .ok (.iaload, 1) := by decide +kernel
theorem dLW_law_294 : decode code 294 = .ok (.aload_n 0, 1) := by decide +kernel
theorem dLW_law_295 : decode code 295 = .ok (.iload_n 3, 1) := by decide +kernel
theorem dLW_law_296 : decode code 296 = .ok (.iconst 4, 1) := by decide +kernel
theorem dLW_law_297 : decode code 297 = .ok (.iadd, 1) := by decide +kernel
theorem dLW_law_298 : decode code 298 = .ok (.iaload, 1) := by decide +kernel
theorem dLW_law_299 : decode code 299 = .ok (.aload_n 0, 1) := by decide +kernel
theorem dLW_law_300 : decode code 300 = .ok (.iload_n 3, 1) := by decide +kernel
theorem dLW_law_301 : decode code 301 = .ok (.iconst 5, 1) := by decide +kernel
theorem dLW_law_302 : decode code 302 = .ok (.iadd, 1) := by decide +kernel
theorem dLW_law_303 : decode code 303 = .ok (.iaload, 1) := by decide +kernel
theorem dLW_law_304 : decode code 304 = .ok (.invokevirtual 31, 3) := by decide +kernel
theorem dLW_law_307 : decode code 307 = .ok (.if_icmp .eq 519, 3) := by decide +kernel
theorem dLW_law_310 : decode code 310 = .ok (.iconst 0, 1) := by decide +kernel
theorem dLW_law_311 : decode code 311 = .ok (.ireturn, 1) := by decide +kernel
theorem dLW_law_312 : decode code 312 = .ok (.aload_n 1, 1) := by decide +kernel
theorem dLW_law_313 : decode code 313 = .ok (.aload_n 0, 1) := by decide +kernel
theorem dLW_law_314 : decode code 314 = .ok (.iload_n 3, 1) := by decide +kernel
theorem dLW_law_315 : decode code 315 = .ok (.iconst 1, 1) := by decide +kernel
theorem dLW_law_316 : decode code 316 = .ok (.iadd, 1) := by decide +kernel
theorem dLW_law_317 : decode code 317 = .ok (.iaload, 1) := by decide +kernel
theorem dLW_law_318 : decode code 318 = .ok (.aload_n 0, 1) := by decide +kernel
theorem dLW_law_319 : decode code 319 = .ok (.iload_n 3, 1) := by decide +kernel
theorem dLW_law_320 : decode code 320 = .ok (.iconst 2, 1) := by decide +kernel
theorem dLW_law_321 : decode code 321 = .ok (.iadd, 1) := by decide +kernel
theorem dLW_law_322 : decode code 322 = .ok (.iaload, 1) := by decide +kernel
theorem dLW_law_323 : decode code 323 = .ok (.aload_n 0, 1) := by decide +kernel
theorem dLW_law_324 : decode code 324 = .ok (.iload_n 3, 1) := by decide +kernel
theorem dLW_law_325 : decode code 325 = .ok (.iconst 3, 1) := by decide +kernel
theorem dLW_law_326 : decode code 326 = .ok (.iadd, 1) := by decide +kernel
theorem dLW_law_327 : decode code 327 = .ok (.iaload, 1) := by decide +kernel
theorem dLW_law_328 : decode code 328 = .ok (.invokevirtual 32, 3) := by decide +kernel
theorem dLW_law_331 : decode code 331 = .ok (.aload_n 2, 1) := by decide +kernel
theorem dLW_law_332 : decode code 332 = .ok (.aload_n 0, 1) := by decide +kernel
theorem dLW_law_333 : decode code 333 = .ok (.iload_n 3, 1) := by decide +kernel
theorem dLW_law_334 : decode code 334 = .ok (.iconst 1, 1) := by decide +kernel
theorem dLW_law_335 : decode code 335 = .ok (.iadd, 1) := by decide +kernel
theorem dLW_law_336 : decode code 336 = .ok (.iaload, 1) := by decide +kernel
theorem dLW_law_337 : decode code 337 = .ok (.aload_n 0, 1) := by decide +kernel
theorem dLW_law_338 : decode code 338 = .ok (.iload_n 3, 1) := by decide +kernel
theorem dLW_law_339 : decode code 339 = .ok (.iconst 2, 1) := by decide +kernel
theorem dLW_law_340 : decode code 340 = .ok (.iadd, 1) := by decide +kernel
theorem dLW_law_341 : decode code 341 = .ok (.iaload, 1) := by decide +kernel
theorem dLW_law_342 : decode code 342 = .ok (.aload_n 0, 1) := by decide +kernel
theorem dLW_law_343 : decode code 343 = .ok (.iload_n 3, 1) := by decide +kernel
theorem dLW_law_344 : decode code 344 = .ok (.iconst 3, 1) := by decide +kernel
theorem dLW_law_345 : decode code 345 = .ok (.iadd, 1) := by decide +kernel
theorem dLW_law_346 : decode code 346 = .ok (.iaload, 1) := by decide +kernel
theorem dLW_law_347 : decode code 347 = .ok (.invokevirtual 36, 3) := by decide +kernel
theorem dLW_law_350 : decode code 350 = .ok (.if_icmp .eq 476, 3) := by decide +kernel
theorem dLW_law_353 : decode code 353 = .ok (.iconst 0, 1) := by decide +kernel
theorem dLW_law_354 : decode code 354 = .ok (.ireturn, 1) := by decide +kernel
theorem dLW_law_355 : decode code 355 = .ok (.aload_n 1, 1) := by decide +kernel
theorem dLW_law_356 : decode code 356 = .ok (.aload_n 0, 1) := by decide +kernel
theorem dLW_law_357 : decode code 357 = .ok (.iload_n 3, 1) := by decide +kernel
theorem dLW_law_358 : decode code 358 = .ok (.iconst 1, 1) := by decide +kernel
theorem dLW_law_359 : decode code 359 = .ok (.iadd, 1) := by decide +kernel
theorem dLW_law_360 : decode code 360 = .ok (.iaload, 1) := by decide +kernel
theorem dLW_law_361 : decode code 361 = .ok (.invokevirtual 37, 3) := by decide +kernel
theorem dLW_law_364 : decode code 364 = .ok (.aload_n 2, 1) := by decide +kernel
theorem dLW_law_365 : decode code 365 = .ok (.aload_n 0, 1) := by decide +kernel
theorem dLW_law_366 : decode code 366 = .ok (.iload_n 3, 1) := by decide +kernel
theorem dLW_law_367 : decode code 367 = .ok (.iconst 1, 1) := by decide +kernel
theorem dLW_law_368 : decode code 368 = .ok (.iadd, 1) := by decide +kernel
theorem dLW_law_369 : decode code 369 = .ok (.iaload, 1) := by decide +kernel
theorem dLW_law_370 : decode code 370 = .ok (.invokevirtual 40, 3) := by decide +kernel
theorem dLW_law_373 : decode code 373 = .ok (.if_icmp .eq 453, 3) := by decide +kernel
theorem dLW_law_376 : decode code 376 = .ok (.iconst 0, 1) := by decide +kernel
theorem dLW_law_377 : decode code 377 = .ok (.ireturn, 1) := by decide +kernel
theorem dLW_law_378 : decode code 378 = .ok (.aload_n 1, 1) := by decide +kernel
theorem dLW_law_379 : decode code 379 = .ok (.aload_n 0, 1) := by decide +kernel
theorem dLW_law_380 : decode code 380 = .ok (.iload_n 3, 1) := by decide +kernel
theorem dLW_law_381 : decode code 381 = .ok (.iconst 1, 1) := by decide +kernel
theorem dLW_law_382 : decode code 382 = .ok (.iadd, 1) := by decide +kernel
theorem dLW_law_383 : decode code 383 = .ok (.iaload, 1) := by decide +kernel
theorem dLW_law_384 : decode code 384 = .ok (.aload_n 0, 1) := by decide +kernel
theorem dLW_law_385 : decode code 385 = .ok (.iload_n 3, 1) := by decide +kernel
theorem dLW_law_386 : decode code 386 = .ok (.iconst 2, 1) := by decide +kernel
theorem dLW_law_387 : decode code 387 = .ok (.iadd, 1) := by decide +kernel
theorem dLW_law_388 : decode code 388 = .ok (.iaload, 1) := by decide +kernel
theorem dLW_law_389 : decode code 389 = .ok (.aload_n 0, 1) := by decide +kernel
theorem dLW_law_390 : decode code 390 = .ok (.iload_n 3, 1) := by decide +kernel
theorem dLW_law_391 : decode code 391 = .ok (.iconst 3, 1) := by decide +kernel
theorem dLW_law_392 : decode code 392 = .ok (.iadd, 1) := by decide +kernel
theorem dLW_law_393 : decode code 393 = .ok (.iaload, 1) := by decide +kernel
theorem dLW_law_394 : decode code 394 = .ok (.aload_n 0, 1) := by decide +kernel
theorem dLW_law_395 : decode code 395 = .ok (.iload_n 3, 1) := by decide +kernel
theorem dLW_law_396 : decode code 396 = .ok (.iconst 4, 1) := by decide +kernel
theorem dLW_law_397 : decode code 397 = .ok (.iadd, 1) := by decide +kernel
theorem dLW_law_398 : decode code 398 = .ok (.iaload, 1) := by decide +kernel
theorem dLW_law_399 : decode code 399 = .ok (.invokevirtual 41, 3) := by decide +kernel
theorem dLW_law_402 : decode code 402 = .ok (.aload_n 2, 1) := by decide +kernel
theorem dLW_law_403 : decode code 403 = .ok (.aload_n 0, 1) := by decide +kernel
theorem dLW_law_404 : decode code 404 = .ok (.iload_n 3, 1) := by decide +kernel
theorem dLW_law_405 : decode code 405 = .ok (.iconst 1, 1) := by decide +kernel
theorem dLW_law_406 : decode code 406 = .ok (.iadd, 1) := by decide +kernel
theorem dLW_law_407 : decode code 407 = .ok (.iaload, 1) := by decide +kernel
theorem dLW_law_408 : decode code 408 = .ok (.aload_n 0, 1) := by decide +kernel
theorem dLW_law_409 : decode code 409 = .ok (.iload_n 3, 1) := by decide +kernel
theorem dLW_law_410 : decode code 410 = .ok (.iconst 2, 1) := by decide +kernel
theorem dLW_law_411 : decode code 411 = .ok (.iadd, 1) := by decide +kernel
theorem dLW_law_412 : decode code 412 = .ok (.iaload, 1) := by decide +kernel
theorem dLW_law_413 : decode code 413 = .ok (.aload_n 0, 1) := by decide +kernel
theorem dLW_law_414 : decode code 414 = .ok (.iload_n 3, 1) := by decide +kernel
theorem dLW_law_415 : decode code 415 = .ok (.iconst 3, 1) := by decide +kernel
theorem dLW_law_416 : decode code 416 = .ok (.iadd, 1) := by decide +kernel
theorem dLW_law_417 : decode code 417 = .ok (.iaload, 1) := by decide +kernel
theorem dLW_law_418 : decode code 418 = .ok (.aload_n 0, 1) := by decide +kernel
theorem dLW_law_419 : decode code 419 = .ok (.iload_n 3, 1) := by decide +kernel
theorem dLW_law_420 : decode code 420 = .ok (.iconst 4, 1) := by decide +kernel
theorem dLW_law_421 : decode code 421 = .ok (.iadd, 1) := by decide +kernel
theorem dLW_law_422 : decode code 422 = .ok (.iaload, 1) := by decide +kernel
theorem dLW_law_423 : decode code 423 = .ok (.invokevirtual 44, 3) := by decide +kernel
theorem dLW_law_426 : decode code 426 = .ok (.if_icmp .eq 400, 3) := by decide +kernel
theorem dLW_law_429 : decode code 429 = .ok (.iconst 0, 1) := by decide +kernel
theorem dLW_law_430 : decode code 430 = .ok (.ireturn, 1) := by decide +kernel
theorem dLW_law_431 : decode code 431 = .ok (.aload_n 1, 1) := by decide +kernel
theorem dLW_law_432 : decode code 432 = .ok (.aload_n 0, 1) := by decide +kernel
theorem dLW_law_433 : decode code 433 = .ok (.iload_n 3, 1) := by decide +kernel
theorem dLW_law_434 : decode code 434 = .ok (.iconst 1, 1) := by decide +kernel
theorem dLW_law_435 : decode code 435 = .ok (.iadd, 1) := by decide +kernel
theorem dLW_law_436 : decode code 436 = .ok (.iaload, 1) := by decide +kernel
theorem dLW_law_437 : decode code 437 = .ok (.aload_n 0, 1) := by decide +kernel
theorem dLW_law_438 : decode code 438 = .ok (.iload_n 3, 1) := by decide +kernel
theorem dLW_law_439 : decode code 439 = .ok (.iconst 2, 1) := by decide +kernel
theorem dLW_law_440 : decode code 440 = .ok (.iadd, 1) := by decide +kernel
theorem dLW_law_441 : decode code 441 = .ok (.iaload, 1) := by decide +kernel
theorem dLW_law_442 : decode code 442 = .ok (.aload_n 0, 1) := by decide +kernel
theorem dLW_law_443 : decode code 443 = .ok (.iload_n 3, 1) := by decide +kernel
theorem dLW_law_444 : decode code 444 = .ok (.iconst 3, 1) := by decide +kernel
theorem dLW_law_445 : decode code 445 = .ok (.iadd, 1) := by decide +kernel
theorem dLW_law_446 : decode code 446 = .ok (.iaload, 1) := by decide +kernel
theorem dLW_law_447 : decode code 447 = .ok (.aload_n 0, 1) := by decide +kernel
theorem dLW_law_448 : decode code 448 = .ok (.iload_n 3, 1) := by decide +kernel
theorem dLW_law_449 : decode code 449 = .ok (.iconst 4, 1) := by decide +kernel
theorem dLW_law_450 : decode code 450 = .ok (.iadd, 1) := by decide +kernel
theorem dLW_law_451 : decode code 451 = .ok (.iaload, 1) := by decide +kernel
theorem dLW_law_452 : decode code 452 = .ok (.aload_n 0, 1) := by decide +kernel
theorem dLW_law_453 : decode code 453 = .ok (.iload_n 3, 1) := by decide +kernel
theorem dLW_law_454 : decode code 454 = .ok (.iconst 5, 1) := by decide +kernel
theorem dLW_law_455 : decode code 455 = .ok (.iadd, 1) := by decide +kernel
theorem dLW_law_456 : decode code 456 = .ok (.iaload, 1) := by decide +kernel
theorem dLW_law_457 : decode code 457 = .ok (.invokevirtual 45, 3) := by decide +kernel
theorem dLW_law_460 : decode code 460 = .ok (.aload_n 2, 1) := by decide +kernel
theorem dLW_law_461 : decode code 461 = .ok (.aload_n 0, 1) := by decide +kernel
theorem dLW_law_462 : decode code 462 = .ok (.iload_n 3, 1) := by decide +kernel
theorem dLW_law_463 : decode code 463 = .ok (.iconst 1, 1) := by decide +kernel
theorem dLW_law_464 : decode code 464 = .ok (.iadd, 1) := by decide +kernel
theorem dLW_law_465 : decode code 465 = .ok (.iaload, 1) := by decide +kernel
theorem dLW_law_466 : decode code 466 = .ok (.aload_n 0, 1) := by decide +kernel
theorem dLW_law_467 : decode code 467 = .ok (.iload_n 3, 1) := by decide +kernel
theorem dLW_law_468 : decode code 468 = .ok (.iconst 2, 1) := by decide +kernel
theorem dLW_law_469 : decode code 469 = .ok (.iadd, 1) := by decide +kernel
theorem dLW_law_470 : decode code 470 = .ok (.iaload, 1) := by decide +kernel
theorem dLW_law_471 : decode code 471 = .ok (.aload_n 0, 1) := by decide +kernel
theorem dLW_law_472 : decode code 472 = .ok (.iload_n 3, 1) := by decide +kernel
theorem dLW_law_473 : decode code 473 = .ok (.iconst 3, 1) := by decide +kernel
theorem dLW_law_474 : decode code 474 = .ok (.iadd, 1) := by decide +kernel
theorem dLW_law_475 : decode code 475 = .ok (.iaload, 1) := by decide +kernel
theorem dLW_law_476 : decode code 476 = .ok (.aload_n 0, 1) := by decide +kernel
theorem dLW_law_477 : decode code 477 = .ok (.iload_n 3, 1) := by decide +kernel
theorem dLW_law_478 : decode code 478 = .ok (.iconst 4, 1) := by decide +kernel
theorem dLW_law_479 : decode code 479 = .ok (.iadd, 1) := by decide +kernel
theorem dLW_law_480 : decode code 480 = .ok (.iaload, 1) := by decide +kernel
theorem dLW_law_481 : decode code 481 = .ok (.aload_n 0, 1) := by decide +kernel
theorem dLW_law_482 : decode code 482 = .ok (.iload_n 3, 1) := by decide +kernel
theorem dLW_law_483 : decode code 483 = .ok (.iconst 5, 1) := by decide +kernel
theorem dLW_law_484 : decode code 484 = .ok (.iadd, 1) := by decide +kernel
theorem dLW_law_485 : decode code 485 = .ok (.iaload, 1) := by decide +kernel
theorem dLW_law_486 : decode code 486 = .ok (.invokevirtual 48, 3) := by decide +kernel
theorem dLW_law_489 : decode code 489 = .ok (.if_icmp .eq 337, 3) := by decide +kernel
theorem dLW_law_492 : decode code 492 = .ok (.iconst 0, 1) := by decide +kernel
theorem dLW_law_493 : decode code 493 = .ok (.ireturn, 1) := by decide +kernel
theorem dLW_law_494 : decode code 494 = .ok (.aload_n 1, 1) := by decide +kernel
theorem dLW_law_495 : decode code 495 = .ok (.invokevirtual 49, 3) := by decide +kernel
theorem dLW_law_498 : decode code 498 = .ok (.aload_n 2, 1) := by decide +kernel
theorem dLW_law_499 : decode code 499 = .ok (.invokevirtual 53, 3) := by decide +kernel
theorem dLW_law_502 : decode code 502 = .ok (.if_icmp .eq 324, 3) := by decide +kernel
theorem dLW_law_505 : decode code 505 = .ok (.iconst 0, 1) := by decide +kernel
theorem dLW_law_506 : decode code 506 = .ok (.ireturn, 1) := by decide +kernel
theorem dLW_law_507 : decode code 507 = .ok (.aload_n 1, 1) := by decide +kernel
theorem dLW_law_508 : decode code 508 = .ok (.invokevirtual 54, 3) := by decide +kernel
theorem dLW_law_511 : decode code 511 = .ok (.aload_n 2, 1) := by decide +kernel
theorem dLW_law_512 : decode code 512 = .ok (.invokevirtual 57, 3) := by decide +kernel
theorem dLW_law_515 : decode code 515 = .ok (.if_icmp .eq 311, 3) := by decide +kernel
theorem dLW_law_518 : decode code 518 = .ok (.iconst 0, 1) := by decide +kernel
theorem dLW_law_519 : decode code 519 = .ok (.ireturn, 1) := by decide +kernel
theorem dLW_law_520 : decode code 520 = .ok (.aload_n 1, 1) := by decide +kernel
theorem dLW_law_521 : decode code 521 = .ok (.aload_n 0, 1) := by decide +kernel
theorem dLW_law_522 : decode code 522 = .ok (.iload_n 3, 1) := by decide +kernel
theorem dLW_law_523 : decode code 523 = .ok (.iconst 1, 1) := by decide +kernel
theorem dLW_law_524 : decode code 524 = .ok (.iadd, 1) := by decide +kernel
theorem dLW_law_525 : decode code 525 = .ok (.iaload, 1) := by decide +kernel
theorem dLW_law_526 : decode code 526 = .ok (.aload_n 0, 1) := by decide +kernel
theorem dLW_law_527 : decode code 527 = .ok (.iload_n 3, 1) := by decide +kernel
theorem dLW_law_528 : decode code 528 = .ok (.iconst 2, 1) := by decide +kernel
theorem dLW_law_529 : decode code 529 = .ok (.iadd, 1) := by decide +kernel
theorem dLW_law_530 : decode code 530 = .ok (.iaload, 1) := by decide +kernel
theorem dLW_law_531 : decode code 531 = .ok (.aload_n 0, 1) := by decide +kernel
theorem dLW_law_532 : decode code 532 = .ok (.iload_n 3, 1) := by decide +kernel
theorem dLW_law_533 : decode code 533 = .ok (.iconst 3, 1) := by decide +kernel
theorem dLW_law_534 : decode code 534 = .ok (.iadd, 1) := by decide +kernel
theorem dLW_law_535 : decode code 535 = .ok (.iaload, 1) := by decide +kernel
theorem dLW_law_536 : decode code 536 = .ok (.aload_n 0, 1) := by decide +kernel
theorem dLW_law_537 : decode code 537 = .ok (.iload_n 3, 1) := by decide +kernel
theorem dLW_law_538 : decode code 538 = .ok (.iconst 4, 1) := by decide +kernel
theorem dLW_law_539 : decode code 539 = .ok (.iadd, 1) := by decide +kernel
theorem dLW_law_540 : decode code 540 = .ok (.iaload, 1) := by decide +kernel
theorem dLW_law_541 : decode code 541 = .ok (.invokevirtual 58, 3) := by decide +kernel
theorem dLW_law_544 : decode code 544 = .ok (.aload_n 2, 1) := by decide +kernel
theorem dLW_law_545 : decode code 545 = .ok (.aload_n 0, 1) := by decide +kernel
theorem dLW_law_546 : decode code 546 = .ok (.iload_n 3, 1) := by decide +kernel
theorem dLW_law_547 : decode code 547 = .ok (.iconst 1, 1) := by decide +kernel
theorem dLW_law_548 : decode code 548 = .ok (.iadd, 1) := by decide +kernel
theorem dLW_law_549 : decode code 549 = .ok (.iaload, 1) := by decide +kernel
theorem dLW_law_550 : decode code 550 = .ok (.aload_n 0, 1) := by decide +kernel
theorem dLW_law_551 : decode code 551 = .ok (.iload_n 3, 1) := by decide +kernel
theorem dLW_law_552 : decode code 552 = .ok (.iconst 2, 1) := by decide +kernel
theorem dLW_law_553 : decode code 553 = .ok (.iadd, 1) := by decide +kernel
theorem dLW_law_554 : decode code 554 = .ok (.iaload, 1) := by decide +kernel
theorem dLW_law_555 : decode code 555 = .ok (.aload_n 0, 1) := by decide +kernel
theorem dLW_law_556 : decode code 556 = .ok (.iload_n 3, 1) := by decide +kernel
theorem dLW_law_557 : decode code 557 = .ok (.iconst 3, 1) := by decide +kernel
theorem dLW_law_558 : decode code 558 = .ok (.iadd, 1) := by decide +kernel
theorem dLW_law_559 : decode code 559 = .ok (.iaload, 1) := by decide +kernel
theorem dLW_law_560 : decode code 560 = .ok (.aload_n 0, 1) := by decide +kernel
theorem dLW_law_561 : decode code 561 = .ok (.iload_n 3, 1) := by decide +kernel
theorem dLW_law_562 : decode code 562 = .ok (.iconst 4, 1) := by decide +kernel
theorem dLW_law_563 : decode code 563 = .ok (.iadd, 1) := by decide +kernel
theorem dLW_law_564 : decode code 564 = .ok (.iaload, 1) := by decide +kernel
theorem dLW_law_565 : decode code 565 = .ok (.invokevirtual 62, 3) := by decide +kernel
theorem dLW_law_568 : decode code 568 = .ok (.lcmp, 1) := by decide +kernel
theorem dLW_law_569 : decode code 569 = .ok (.ifCond .eq 257, 3) := by decide +kernel
theorem dLW_law_572 : decode code 572 = .ok (.iconst 0, 1) := by decide +kernel
theorem dLW_law_573 : decode code 573 = .ok (.ireturn, 1) := by decide +kernel
theorem dLW_law_574 : decode code 574 = .ok (.aload_n 1, 1) := by decide +kernel
theorem dLW_law_575 : decode code 575 = .ok (.aload_n 0, 1) := by decide +kernel
theorem dLW_law_576 : decode code 576 = .ok (.iload_n 3, 1) := by decide +kernel
theorem dLW_law_577 : decode code 577 = .ok (.iconst 1, 1) := by decide +kernel
theorem dLW_law_578 : decode code 578 = .ok (.iadd, 1) := by decide +kernel
theorem dLW_law_579 : decode code 579 = .ok (.iaload, 1) := by decide +kernel
theorem dLW_law_580 : decode code 580 = .ok (.aload_n 0, 1) := by decide +kernel
theorem dLW_law_581 : decode code 581 = .ok (.iload_n 3, 1) := by decide +kernel
theorem dLW_law_582 : decode code 582 = .ok (.iconst 2, 1) := by decide +kernel
theorem dLW_law_583 : decode code 583 = .ok (.iadd, 1) := by decide +kernel
theorem dLW_law_584 : decode code 584 = .ok (.iaload, 1) := by decide +kernel
theorem dLW_law_585 : decode code 585 = .ok (.aload_n 0, 1) := by decide +kernel
theorem dLW_law_586 : decode code 586 = .ok (.iload_n 3, 1) := by decide +kernel
theorem dLW_law_587 : decode code 587 = .ok (.iconst 3, 1) := by decide +kernel
theorem dLW_law_588 : decode code 588 = .ok (.iadd, 1) := by decide +kernel
theorem dLW_law_589 : decode code 589 = .ok (.iaload, 1) := by decide +kernel
theorem dLW_law_590 : decode code 590 = .ok (.aload_n 0, 1) := by decide +kernel
theorem dLW_law_591 : decode code 591 = .ok (.iload_n 3, 1) := by decide +kernel
theorem dLW_law_592 : decode code 592 = .ok (.iconst 4, 1) := by decide +kernel
theorem dLW_law_593 : decode code 593 = .ok (.iadd, 1) := by decide +kernel
theorem dLW_law_594 : decode code 594 = .ok (.iaload, 1) := by decide +kernel
theorem dLW_law_595 : decode code 595 = .ok (.invokevirtual 63, 3) := by decide +kernel
theorem dLW_law_598 : decode code 598 = .ok (.aload_n 2, 1) := by decide +kernel
theorem dLW_law_599 : decode code 599 = .ok (.aload_n 0, 1) := by decide +kernel
theorem dLW_law_600 : decode code 600 = .ok (.iload_n 3, 1) := by decide +kernel
theorem dLW_law_601 : decode code 601 = .ok (.iconst 1, 1) := by decide +kernel
theorem dLW_law_602 : decode code 602 = .ok (.iadd, 1) := by decide +kernel
theorem dLW_law_603 : decode code 603 = .ok (.iaload, 1) := by decide +kernel
theorem dLW_law_604 : decode code 604 = .ok (.aload_n 0, 1) := by decide +kernel
theorem dLW_law_605 : decode code 605 = .ok (.iload_n 3, 1) := by decide +kernel
theorem dLW_law_606 : decode code 606 = .ok (.iconst 2, 1) := by decide +kernel
theorem dLW_law_607 : decode code 607 = .ok (.iadd, 1) := by decide +kernel
theorem dLW_law_608 : decode code 608 = .ok (.iaload, 1) := by decide +kernel
theorem dLW_law_609 : decode code 609 = .ok (.aload_n 0, 1) := by decide +kernel
theorem dLW_law_610 : decode code 610 = .ok (.iload_n 3, 1) := by decide +kernel
theorem dLW_law_611 : decode code 611 = .ok (.iconst 3, 1) := by decide +kernel
theorem dLW_law_612 : decode code 612 = .ok (.iadd, 1) := by decide +kernel
theorem dLW_law_613 : decode code 613 = .ok (.iaload, 1) := by decide +kernel
theorem dLW_law_614 : decode code 614 = .ok (.aload_n 0, 1) := by decide +kernel
theorem dLW_law_615 : decode code 615 = .ok (.iload_n 3, 1) := by decide +kernel
theorem dLW_law_616 : decode code 616 = .ok (.iconst 4, 1) := by decide +kernel
theorem dLW_law_617 : decode code 617 = .ok (.iadd, 1) := by decide +kernel
theorem dLW_law_618 : decode code 618 = .ok (.iaload, 1) := by decide +kernel
theorem dLW_law_619 : decode code 619 = .ok (.invokevirtual 66, 3) := by decide +kernel
theorem dLW_law_622 : decode code 622 = .ok (.lcmp, 1) := by decide +kernel
theorem dLW_law_623 : decode code 623 = .ok (.ifCond .eq 203, 3) := by decide +kernel
theorem dLW_law_626 : decode code 626 = .ok (.iconst 0, 1) := by decide +kernel
theorem dLW_law_627 : decode code 627 = .ok (.ireturn, 1) := by decide +kernel
theorem dLW_law_628 : decode code 628 = .ok (.aload_n 1, 1) := by decide +kernel
theorem dLW_law_629 : decode code 629 = .ok (.aload_n 0, 1) := by decide +kernel
theorem dLW_law_630 : decode code 630 = .ok (.iload_n 3, 1) := by decide +kernel
theorem dLW_law_631 : decode code 631 = .ok (.iconst 1, 1) := by decide +kernel
theorem dLW_law_632 : decode code 632 = .ok (.iadd, 1) := by decide +kernel
theorem dLW_law_633 : decode code 633 = .ok (.iaload, 1) := by decide +kernel
theorem dLW_law_634 : decode code 634 = .ok (.invokevirtual 67, 3) := by decide +kernel
theorem dLW_law_637 : decode code 637 = .ok (.aload_n 2, 1) := by decide +kernel
theorem dLW_law_638 : decode code 638 = .ok (.aload_n 0, 1) := by decide +kernel
theorem dLW_law_639 : decode code 639 = .ok (.iload_n 3, 1) := by decide +kernel
theorem dLW_law_640 : decode code 640 = .ok (.iconst 1, 1) := by decide +kernel
theorem dLW_law_641 : decode code 641 = .ok (.iadd, 1) := by decide +kernel
theorem dLW_law_642 : decode code 642 = .ok (.iaload, 1) := by decide +kernel
theorem dLW_law_643 : decode code 643 = .ok (.invokevirtual 70, 3) := by decide +kernel
theorem dLW_law_646 : decode code 646 = .ok (.if_icmp .eq 180, 3) := by decide +kernel
theorem dLW_law_649 : decode code 649 = .ok (.iconst 0, 1) := by decide +kernel
theorem dLW_law_650 : decode code 650 = .ok (.ireturn, 1) := by decide +kernel
theorem dLW_law_651 : decode code 651 = .ok (.aload_n 1, 1) := by decide +kernel
theorem dLW_law_652 : decode code 652 = .ok (.aload_n 0, 1) := by decide +kernel
theorem dLW_law_653 : decode code 653 = .ok (.iload_n 3, 1) := by decide +kernel
theorem dLW_law_654 : decode code 654 = .ok (.iconst 1, 1) := by decide +kernel
theorem dLW_law_655 : decode code 655 = .ok (.iadd, 1) := by decide +kernel
theorem dLW_law_656 : decode code 656 = .ok (.iaload, 1) := by decide +kernel
theorem dLW_law_657 : decode code 657 = .ok (.aload_n 0, 1) := by decide +kernel
theorem dLW_law_658 : decode code 658 = .ok (.iload_n 3, 1) := by decide +kernel
theorem dLW_law_659 : decode code 659 = .ok (.iconst 2, 1) := by decide +kernel
theorem dLW_law_660 : decode code 660 = .ok (.iadd, 1) := by decide +kernel
theorem dLW_law_661 : decode code 661 = .ok (.iaload, 1) := by decide +kernel
theorem dLW_law_662 : decode code 662 = .ok (.aload_n 0, 1) := by decide +kernel
theorem dLW_law_663 : decode code 663 = .ok (.iload_n 3, 1) := by decide +kernel
theorem dLW_law_664 : decode code 664 = .ok (.iconst 3, 1) := by decide +kernel
theorem dLW_law_665 : decode code 665 = .ok (.iadd, 1) := by decide +kernel
theorem dLW_law_666 : decode code 666 = .ok (.iaload, 1) := by decide +kernel
theorem dLW_law_667 : decode code 667 = .ok (.invokevirtual 71, 3) := by decide +kernel
theorem dLW_law_670 : decode code 670 = .ok (.aload_n 2, 1) := by decide +kernel
theorem dLW_law_671 : decode code 671 = .ok (.aload_n 0, 1) := by decide +kernel
theorem dLW_law_672 : decode code 672 = .ok (.iload_n 3, 1) := by decide +kernel
theorem dLW_law_673 : decode code 673 = .ok (.iconst 1, 1) := by decide +kernel
theorem dLW_law_674 : decode code 674 = .ok (.iadd, 1) := by decide +kernel
theorem dLW_law_675 : decode code 675 = .ok (.iaload, 1) := by decide +kernel
theorem dLW_law_676 : decode code 676 = .ok (.aload_n 0, 1) := by decide +kernel
theorem dLW_law_677 : decode code 677 = .ok (.iload_n 3, 1) := by decide +kernel
theorem dLW_law_678 : decode code 678 = .ok (.iconst 2, 1) := by decide +kernel
theorem dLW_law_679 : decode code 679 = .ok (.iadd, 1) := by decide +kernel
theorem dLW_law_680 : decode code 680 = .ok (.iaload, 1) := by decide +kernel
theorem dLW_law_681 : decode code 681 = .ok (.aload_n 0, 1) := by decide +kernel
theorem dLW_law_682 : decode code 682 = .ok (.iload_n 3, 1) := by decide +kernel
theorem dLW_law_683 : decode code 683 = .ok (.iconst 3, 1) := by decide +kernel
theorem dLW_law_684 : decode code 684 = .ok (.iadd, 1) := by decide +kernel
theorem dLW_law_685 : decode code 685 = .ok (.iaload, 1) := by decide +kernel
theorem dLW_law_686 : decode code 686 = .ok (.invokevirtual 75, 3) := by decide +kernel
theorem dLW_law_689 : decode code 689 = .ok (.lcmp, 1) := by decide +kernel
theorem dLW_law_690 : decode code 690 = .ok (.ifCond .eq 136, 3) := by decide +kernel
theorem dLW_law_693 : decode code 693 = .ok (.iconst 0, 1) := by decide +kernel
theorem dLW_law_694 : decode code 694 = .ok (.ireturn, 1) := by decide +kernel
theorem dLW_law_695 : decode code 695 = .ok (.aload_n 1, 1) := by decide +kernel
theorem dLW_law_696 : decode code 696 = .ok (.aload_n 0, 1) := by decide +kernel
theorem dLW_law_697 : decode code 697 = .ok (.iload_n 3, 1) := by decide +kernel
theorem dLW_law_698 : decode code 698 = .ok (.iconst 1, 1) := by decide +kernel
theorem dLW_law_699 : decode code 699 = .ok (.iadd, 1) := by decide +kernel
theorem dLW_law_700 : decode code 700 = .ok (.iaload, 1) := by decide +kernel
theorem dLW_law_701 : decode code 701 = .ok (.invokevirtual 76, 3) := by decide +kernel
theorem dLW_law_704 : decode code 704 = .ok (.aload_n 2, 1) := by decide +kernel
theorem dLW_law_705 : decode code 705 = .ok (.aload_n 0, 1) := by decide +kernel
theorem dLW_law_706 : decode code 706 = .ok (.iload_n 3, 1) := by decide +kernel
theorem dLW_law_707 : decode code 707 = .ok (.iconst 1, 1) := by decide +kernel
theorem dLW_law_708 : decode code 708 = .ok (.iadd, 1) := by decide +kernel
theorem dLW_law_709 : decode code 709 = .ok (.iaload, 1) := by decide +kernel
theorem dLW_law_710 : decode code 710 = .ok (.invokevirtual 80, 3) := by decide +kernel
theorem dLW_law_713 : decode code 713 = .ok (.lcmp, 1) := by decide +kernel
theorem dLW_law_714 : decode code 714 = .ok (.ifCond .eq 112, 3) := by decide +kernel
theorem dLW_law_717 : decode code 717 = .ok (.iconst 0, 1) := by decide +kernel
theorem dLW_law_718 : decode code 718 = .ok (.ireturn, 1) := by decide +kernel
theorem dLW_law_719 : decode code 719 = .ok (.aload_n 1, 1) := by decide +kernel
theorem dLW_law_720 : decode code 720 = .ok (.aload_n 0, 1) := by decide +kernel
theorem dLW_law_721 : decode code 721 = .ok (.iload_n 3, 1) := by decide +kernel
theorem dLW_law_722 : decode code 722 = .ok (.iconst 1, 1) := by decide +kernel
theorem dLW_law_723 : decode code 723 = .ok (.iadd, 1) := by decide +kernel
theorem dLW_law_724 : decode code 724 = .ok (.iaload, 1) := by decide +kernel
theorem dLW_law_725 : decode code 725 = .ok (.invokevirtual 81, 3) := by decide +kernel
theorem dLW_law_728 : decode code 728 = .ok (.aload_n 2, 1) := by decide +kernel
theorem dLW_law_729 : decode code 729 = .ok (.aload_n 0, 1) := by decide +kernel
theorem dLW_law_730 : decode code 730 = .ok (.iload_n 3, 1) := by decide +kernel
theorem dLW_law_731 : decode code 731 = .ok (.iconst 1, 1) := by decide +kernel
theorem dLW_law_732 : decode code 732 = .ok (.iadd, 1) := by decide +kernel
theorem dLW_law_733 : decode code 733 = .ok (.iaload, 1) := by decide +kernel
theorem dLW_law_734 : decode code 734 = .ok (.invokevirtual 84, 3) := by decide +kernel
theorem dLW_law_737 : decode code 737 = .ok (.if_icmp .eq 89, 3) := by decide +kernel
theorem dLW_law_740 : decode code 740 = .ok (.iconst 0, 1) := by decide +kernel
theorem dLW_law_741 : decode code 741 = .ok (.ireturn, 1) := by decide +kernel
theorem dLW_law_742 : decode code 742 = .ok (.aload_n 1, 1) := by decide +kernel
theorem dLW_law_743 : decode code 743 = .ok (.aload_n 0, 1) := by decide +kernel
theorem dLW_law_744 : decode code 744 = .ok (.iload_n 3, 1) := by decide +kernel
theorem dLW_law_745 : decode code 745 = .ok (.iconst 1, 1) := by decide +kernel
theorem dLW_law_746 : decode code 746 = .ok (.iadd, 1) := by decide +kernel
theorem dLW_law_747 : decode code 747 = .ok (.iaload, 1) := by decide +kernel
theorem dLW_law_748 : decode code 748 = .ok (.aload_n 0, 1) := by decide +kernel
theorem dLW_law_749 : decode code 749 = .ok (.iload_n 3, 1) := by decide +kernel
theorem dLW_law_750 : decode code 750 = .ok (.iconst 2, 1) := by decide +kernel
theorem dLW_law_751 : decode code 751 = .ok (.iadd, 1) := by decide +kernel
theorem dLW_law_752 : decode code 752 = .ok (.iaload, 1) := by decide +kernel
theorem dLW_law_753 : decode code 753 = .ok (.invokevirtual 85, 3) := by decide +kernel
theorem dLW_law_756 : decode code 756 = .ok (.dstore 4, 2) := by decide +kernel
theorem dLW_law_758 : decode code 758 = .ok (.aload_n 2, 1) := by decide +kernel
theorem dLW_law_759 : decode code 759 = .ok (.aload_n 0, 1) := by decide +kernel
theorem dLW_law_760 : decode code 760 = .ok (.iload_n 3, 1) := by decide +kernel
theorem dLW_law_761 : decode code 761 = .ok (.iconst 1, 1) := by decide +kernel
theorem dLW_law_762 : decode code 762 = .ok (.iadd, 1) := by decide +kernel
theorem dLW_law_763 : decode code 763 = .ok (.iaload, 1) := by decide +kernel
theorem dLW_law_764 : decode code 764 = .ok (.aload_n 0, 1) := by decide +kernel
theorem dLW_law_765 : decode code 765 = .ok (.iload_n 3, 1) := by decide +kernel
theorem dLW_law_766 : decode code 766 = .ok (.iconst 2, 1) := by decide +kernel
theorem dLW_law_767 : decode code 767 = .ok (.iadd, 1) := by decide +kernel
theorem dLW_law_768 : decode code 768 = .ok (.iaload, 1) := by decide +kernel
theorem dLW_law_769 : decode code 769 = .ok (.invokevirtual 89, 3) := by decide +kernel
theorem dLW_law_772 : decode code 772 = .ok (.dstore 6, 2) := by decide +kernel
theorem dLW_law_774 : decode code 774 = .ok (.dload 4, 2) := by decide +kernel
theorem dLW_law_776 : decode code 776 = .ok (.dload 6, 2) := by decide +kernel
theorem dLW_law_778 : decode code 778 = .ok (.dcmp .l, 1) := by decide +kernel
theorem dLW_law_779 : decode code 779 = .ok (.ifCond .eq 21, 3) := by decide +kernel
theorem dLW_law_782 : decode code 782 = .ok (.dload 4, 2) := by decide +kernel
theorem dLW_law_784 : decode code 784 = .ok (.dload 4, 2) := by decide +kernel
theorem dLW_law_786 : decode code 786 = .ok (.dcmp .l, 1) := by decide +kernel
theorem dLW_law_787 : decode code 787 = .ok (.ifCond .eq 11, 3) := by decide +kernel
theorem dLW_law_790 : decode code 790 = .ok (.dload 6, 2) := by decide +kernel
theorem dLW_law_792 : decode code 792 = .ok (.dload 6, 2) := by decide +kernel
theorem dLW_law_794 : decode code 794 = .ok (.dcmp .l, 1) := by decide +kernel
theorem dLW_law_795 : decode code 795 = .ok (.ifCond .ne 5, 3) := by decide +kernel
theorem dLW_law_798 : decode code 798 = .ok (.iconst 0, 1) := by decide +kernel
theorem dLW_law_799 : decode code 799 = .ok (.ireturn, 1) := by decide +kernel
theorem dLW_law_800 : decode code 800 = .ok (.goto 26, 3) := by decide +kernel
theorem dLW_law_803 : decode code 803 = .ok (.aload_n 1, 1) := by decide +kernel
theorem dLW_law_804 : decode code 804 = .ok (.aload_n 0, 1) := by decide +kernel
theorem dLW_law_805 : decode code 805 = .ok (.iload_n 3, 1) := by decide +kernel
theorem dLW_law_806 : decode code 806 = .ok (.iconst 1, 1) := by decide +kernel
theorem dLW_law_807 : decode code 807 = .ok (.iadd, 1) := by decide +kernel
theorem dLW_law_808 : decode code 808 = .ok (.iaload, 1) := by decide +kernel
theorem dLW_law_809 : decode code 809 = .ok (.invokevirtual 90, 3) := by decide +kernel
theorem dLW_law_812 : decode code 812 = .ok (.aload_n 2, 1) := by decide +kernel
theorem dLW_law_813 : decode code 813 = .ok (.aload_n 0, 1) := by decide +kernel
theorem dLW_law_814 : decode code 814 = .ok (.iload_n 3, 1) := by decide +kernel
theorem dLW_law_815 : decode code 815 = .ok (.iconst 1, 1) := by decide +kernel
theorem dLW_law_816 : decode code 816 = .ok (.iadd, 1) := by decide +kernel
theorem dLW_law_817 : decode code 817 = .ok (.iaload, 1) := by decide +kernel
theorem dLW_law_818 : decode code 818 = .ok (.invokevirtual 93, 3) := by decide +kernel
theorem dLW_law_821 : decode code 821 = .ok (.if_icmp .eq 5, 3) := by decide +kernel
theorem dLW_law_824 : decode code 824 = .ok (.iconst 0, 1) := by decide +kernel
theorem dLW_law_825 : decode code 825 = .ok (.ireturn, 1) := by decide +kernel
theorem dLW_law_826 : decode code 826 = .ok (.iinc 3 6, 3) := by decide +kernel
theorem dLW_law_829 : decode code 829 = .ok (.goto (-811), 3) := by decide +kernel
theorem dLW_law_832 : decode code 832 = .ok (.iconst 1, 1) := by decide +kernel
theorem dLW_law_833 : decode code 833 = .ok (.ireturn, 1) := by decide +kernel
