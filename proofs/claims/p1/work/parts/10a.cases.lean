theorem tw_260 : Cond.code yX7_house cX7_house 4 (some .int) ∈ zz_all := zz_m2 66 rfl rfl
theorem tw_261 : Cond.methodLink RL 13 yX7_house ∈ zz_all := zz_m2 63 rfl rfl
theorem tw_262 : Cond.instanceMethod yX7_house ∈ zz_all := zz_m2 64 rfl rfl
theorem tw_263 : Cond.selects RX7 yX7_house yX7_house ∈ zz_all := zz_m2 65 rfl rfl
theorem tw_264 : Cond.code yX8_house cX8_house 3 (some .int) ∈ zz_all := zz_m4 77 rfl rfl
theorem tw_265 : Cond.methodLink RL 17 yX8_house ∈ zz_all := zz_m4 74 rfl rfl
theorem tw_266 : Cond.instanceMethod yX8_house ∈ zz_all := zz_m4 75 rfl rfl
theorem tw_267 : Cond.selects RX8 yX8_house yX8_house ∈ zz_all := zz_m4 76 rfl rfl
theorem tw_268 : Cond.code yX7_field cX7_field 7 (some .int) ∈ zz_all := zz_m2 70 rfl rfl
theorem tw_269 : Cond.methodLink RL 18 yX7_field ∈ zz_all := zz_m2 67 rfl rfl
theorem tw_270 : Cond.instanceMethod yX7_field ∈ zz_all := zz_m2 68 rfl rfl
theorem tw_271 : Cond.selects RX7 yX7_field yX7_field ∈ zz_all := zz_m2 69 rfl rfl
theorem tw_272 : Cond.code yX8_field cX8_field 6 (some .int) ∈ zz_all := zz_m4 85 rfl rfl
theorem tw_273 : Cond.methodLink RL 22 yX8_field ∈ zz_all := zz_m4 82 rfl rfl
theorem tw_274 : Cond.instanceMethod yX8_field ∈ zz_all := zz_m4 83 rfl rfl
theorem tw_275 : Cond.selects RX8 yX8_field yX8_field ∈ zz_all := zz_m4 84 rfl rfl
theorem tw_276 : Cond.code yX7_loss cX7_loss 3 (some .boolean) ∈ zz_all := zz_m2 81 rfl rfl
theorem tw_277 : Cond.methodLink RL 23 yX7_loss ∈ zz_all := zz_m2 78 rfl rfl
theorem tw_278 : Cond.instanceMethod yX7_loss ∈ zz_all := zz_m2 79 rfl rfl
theorem tw_279 : Cond.selects RX7 yX7_loss yX7_loss ∈ zz_all := zz_m2 80 rfl rfl
theorem tw_280 : Cond.code yX8_loss cX8_loss 3 (some .boolean) ∈ zz_all := zz_m4 97 rfl rfl
theorem tw_281 : Cond.methodLink RL 27 yX8_loss ∈ zz_all := zz_m4 94 rfl rfl
theorem tw_282 : Cond.instanceMethod yX8_loss ∈ zz_all := zz_m4 95 rfl rfl
theorem tw_283 : Cond.selects RX8 yX8_loss yX8_loss ∈ zz_all := zz_m4 96 rfl rfl
theorem tw_284 : Cond.code yX7_feed cX7_feed 6 (some .int) ∈ zz_all := zz_m2 85 rfl rfl
theorem tw_285 : Cond.methodLink RL 28 yX7_feed ∈ zz_all := zz_m2 82 rfl rfl
theorem tw_286 : Cond.instanceMethod yX7_feed ∈ zz_all := zz_m2 83 rfl rfl
theorem tw_287 : Cond.selects RX7 yX7_feed yX7_feed ∈ zz_all := zz_m2 84 rfl rfl
theorem tw_288 : Cond.code yX8_feed cX8_feed 6 (some .int) ∈ zz_all := zz_m4 102 rfl rfl
theorem tw_289 : Cond.methodLink RL 31 yX8_feed ∈ zz_all := zz_m4 99 rfl rfl
theorem tw_290 : Cond.instanceMethod yX8_feed ∈ zz_all := zz_m4 100 rfl rfl
theorem tw_291 : Cond.selects RX8 yX8_feed yX8_feed ∈ zz_all := zz_m4 101 rfl rfl
theorem tw_292 : Cond.code yX7_end cX7_end 2 (some .int) ∈ zz_all := zz_m2 93 rfl rfl
theorem tw_293 : Cond.methodLink RL 32 yX7_end ∈ zz_all := zz_m2 90 rfl rfl
theorem tw_294 : Cond.instanceMethod yX7_end ∈ zz_all := zz_m2 91 rfl rfl
theorem tw_295 : Cond.selects RX7 yX7_end yX7_end ∈ zz_all := zz_m2 92 rfl rfl
theorem tw_296 : Cond.code yX8_end cX8_end 2 (some .int) ∈ zz_all := zz_m4 110 rfl rfl
theorem tw_297 : Cond.methodLink RL 36 yX8_end ∈ zz_all := zz_m4 107 rfl rfl
theorem tw_298 : Cond.instanceMethod yX8_end ∈ zz_all := zz_m4 108 rfl rfl
theorem tw_299 : Cond.selects RX8 yX8_end yX8_end ∈ zz_all := zz_m4 109 rfl rfl
theorem tw_300 : Cond.code yX7_custom cX7_custom 2 (some .int) ∈ zz_all := zz_m2 97 rfl rfl
theorem tw_301 : Cond.methodLink RL 37 yX7_custom ∈ zz_all := zz_m2 94 rfl rfl
theorem tw_302 : Cond.instanceMethod yX7_custom ∈ zz_all := zz_m2 95 rfl rfl
theorem tw_303 : Cond.selects RX7 yX7_custom yX7_custom ∈ zz_all := zz_m2 96 rfl rfl
theorem tw_304 : Cond.code yX8_custom cX8_custom 4 (some .int) ∈ zz_all := zz_m4 114 rfl rfl
theorem tw_305 : Cond.methodLink RL 41 yX8_custom ∈ zz_all := zz_m4 111 rfl rfl
theorem tw_306 : Cond.instanceMethod yX8_custom ∈ zz_all := zz_m4 112 rfl rfl
theorem tw_307 : Cond.selects RX8 yX8_custom yX8_custom ∈ zz_all := zz_m4 113 rfl rfl
theorem tw_308 : Cond.code yX7_fault cX7_fault 2 (some .int) ∈ zz_all := zz_m2 207 rfl rfl
theorem tw_309 : Cond.methodLink RL 42 yX7_fault ∈ zz_all := zz_m2 204 rfl rfl
theorem tw_310 : Cond.instanceMethod yX7_fault ∈ zz_all := zz_m2 205 rfl rfl
theorem tw_311 : Cond.selects RX7 yX7_fault yX7_fault ∈ zz_all := zz_m2 206 rfl rfl
theorem tw_312 : Cond.code yX8_fault cX8_fault 2 (some .int) ∈ zz_all := zz_m4 157 rfl rfl
theorem tw_313 : Cond.methodLink RL 45 yX8_fault ∈ zz_all := zz_m4 154 rfl rfl
theorem tw_314 : Cond.instanceMethod yX8_fault ∈ zz_all := zz_m4 155 rfl rfl
theorem tw_315 : Cond.selects RX8 yX8_fault yX8_fault ∈ zz_all := zz_m4 156 rfl rfl
theorem tw_316 : Cond.code yX7_says cX7_says 2 (some .int) ∈ zz_all := zz_m2 211 rfl rfl
theorem tw_317 : Cond.methodLink RL 46 yX7_says ∈ zz_all := zz_m2 208 rfl rfl
theorem tw_318 : Cond.instanceMethod yX7_says ∈ zz_all := zz_m2 209 rfl rfl
theorem tw_319 : Cond.selects RX7 yX7_says yX7_says ∈ zz_all := zz_m2 210 rfl rfl
theorem tw_320 : Cond.code yX8_says cX8_says 2 (some .int) ∈ zz_all := zz_m4 161 rfl rfl
theorem tw_321 : Cond.methodLink RL 49 yX8_says ∈ zz_all := zz_m4 158 rfl rfl
theorem tw_322 : Cond.instanceMethod yX8_says ∈ zz_all := zz_m4 159 rfl rfl
theorem tw_323 : Cond.selects RX8 yX8_says yX8_says ∈ zz_all := zz_m4 160 rfl rfl
theorem tw_324 : Cond.code yX7_ill cX7_ill 4 (some .boolean) ∈ zz_all := zz_m2 215 rfl rfl
theorem tw_325 : Cond.methodLink RL 50 yX7_ill ∈ zz_all := zz_m2 212 rfl rfl
theorem tw_326 : Cond.instanceMethod yX7_ill ∈ zz_all := zz_m2 213 rfl rfl
theorem tw_327 : Cond.selects RX7 yX7_ill yX7_ill ∈ zz_all := zz_m2 214 rfl rfl
theorem tw_328 : Cond.code yX8_ill cX8_ill 3 (some .boolean) ∈ zz_all := zz_m4 166 rfl rfl
theorem tw_329 : Cond.methodLink RL 53 yX8_ill ∈ zz_all := zz_m4 163 rfl rfl
theorem tw_330 : Cond.instanceMethod yX8_ill ∈ zz_all := zz_m4 164 rfl rfl
theorem tw_331 : Cond.selects RX8 yX8_ill yX8_ill ∈ zz_all := zz_m4 165 rfl rfl
theorem tw_332 : Cond.code yX7_work cX7_work 6 (some .int) ∈ zz_all := zz_m2 219 rfl rfl
theorem tw_333 : Cond.methodLink RL 54 yX7_work ∈ zz_all := zz_m2 216 rfl rfl
theorem tw_334 : Cond.instanceMethod yX7_work ∈ zz_all := zz_m2 217 rfl rfl
theorem tw_335 : Cond.selects RX7 yX7_work yX7_work ∈ zz_all := zz_m2 218 rfl rfl
theorem tw_336 : Cond.code yX8_work cX8_work 6 (some .int) ∈ zz_all := zz_m4 170 rfl rfl
theorem tw_337 : Cond.methodLink RL 58 yX8_work ∈ zz_all := zz_m4 167 rfl rfl
theorem tw_338 : Cond.instanceMethod yX8_work ∈ zz_all := zz_m4 168 rfl rfl
theorem tw_339 : Cond.selects RX8 yX8_work yX8_work ∈ zz_all := zz_m4 169 rfl rfl
theorem tw_340 : Cond.code yX7_hire cX7_hire 5 (some .int) ∈ zz_all := zz_m3 27 rfl rfl
theorem tw_341 : Cond.methodLink RL 59 yX7_hire ∈ zz_all := zz_m3 24 rfl rfl
theorem tw_342 : Cond.instanceMethod yX7_hire ∈ zz_all := zz_m3 25 rfl rfl
theorem tw_343 : Cond.selects RX7 yX7_hire yX7_hire ∈ zz_all := zz_m3 26 rfl rfl
theorem tw_344 : Cond.code yX8_hire cX8_hire 3 (some .int) ∈ zz_all := zz_m4 210 rfl rfl
theorem tw_345 : Cond.methodLink RL 63 yX8_hire ∈ zz_all := zz_m4 207 rfl rfl
theorem tw_346 : Cond.instanceMethod yX8_hire ∈ zz_all := zz_m4 208 rfl rfl
theorem tw_347 : Cond.selects RX8 yX8_hire yX8_hire ∈ zz_all := zz_m4 209 rfl rfl
theorem dL_law_136 : decode cL_law 136 = .ok (.aload_n 1, 1) := by decide +kernel
theorem dL_law_137 : decode cL_law 137 = .ok (.aload_n 0, 1) := by decide +kernel
theorem dL_law_138 : decode cL_law 138 = .ok (.iload_n 3, 1) := by decide +kernel
theorem dL_law_139 : decode cL_law 139 = .ok (.iconst 1, 1) := by decide +kernel
theorem dL_law_140 : decode cL_law 140 = .ok (.iadd, 1) := by decide +kernel
theorem dL_law_141 : decode cL_law 141 = .ok (.iaload, 1) := by decide +kernel
theorem dL_law_142 : decode cL_law 142 = .ok (.aload_n 0, 1) := by decide +kernel
theorem dL_law_143 : decode cL_law 143 = .ok (.iload_n 3, 1) := by decide +kernel
theorem dL_law_144 : decode cL_law 144 = .ok (.iconst 2, 1) := by decide +kernel
theorem dL_law_145 : decode cL_law 145 = .ok (.iadd, 1) := by decide +kernel
theorem dL_law_146 : decode cL_law 146 = .ok (.iaload, 1) := by decide +kernel
theorem dL_law_147 : decode cL_law 147 = .ok (.ifCond .eq 7, 3) := by decide +kernel
theorem dL_law_150 : decode cL_law 150 = .ok (.iconst 1, 1) := by decide +kernel
theorem dL_law_151 : decode cL_law 151 = .ok (.goto 4, 3) := by decide +kernel
theorem dL_law_154 : decode cL_law 154 = .ok (.iconst 0, 1) := by decide +kernel
theorem dL_law_155 : decode cL_law 155 = .ok (.invokevirtual 13, 3) := by decide +kernel
theorem dL_law_158 : decode cL_law 158 = .ok (.aload_n 2, 1) := by decide +kernel
theorem dL_law_159 : decode cL_law 159 = .ok (.aload_n 0, 1) := by decide +kernel
theorem dL_law_160 : decode cL_law 160 = .ok (.iload_n 3, 1) := by decide +kernel
theorem dL_law_161 : decode cL_law 161 = .ok (.iconst 1, 1) := by decide +kernel
theorem dL_law_162 : decode cL_law 162 = .ok (.iadd, 1) := by decide +kernel
theorem dL_law_163 : decode cL_law 163 = .ok (.iaload, 1) := by decide +kernel
theorem dL_law_164 : decode cL_law 164 = .ok (.aload_n 0, 1) := by decide +kernel
theorem dL_law_165 : decode cL_law 165 = .ok (.iload_n 3, 1) := by decide +kernel
theorem dL_law_166 : decode cL_law 166 = .ok (.iconst 2, 1) := by decide +kernel
theorem dL_law_167 : decode cL_law 167 = .ok (.iadd, 1) := by decide +kernel
theorem dL_law_168 : decode cL_law 168 = .ok (.iaload, 1) := by decide +kernel
theorem dL_law_169 : decode cL_law 169 = .ok (.ifCond .eq 7, 3) := by decide +kernel
theorem dL_law_172 : decode cL_law 172 = .ok (.iconst 1, 1) := by decide +kernel
theorem dL_law_173 : decode cL_law 173 = .ok (.goto 4, 3) := by decide +kernel
theorem dL_law_176 : decode cL_law 176 = .ok (.iconst 0, 1) := by decide +kernel
theorem dL_law_177 : decode cL_law 177 = .ok (.invokevirtual 17, 3) := by decide +kernel
theorem dL_law_180 : decode cL_law 180 = .ok (.if_icmp .eq 638, 3) := by decide +kernel
theorem dL_law_185 : decode cL_law 185 = .ok (.aload_n 1, 1) := by decide +kernel
theorem dL_law_186 : decode cL_law 186 = .ok (.aload_n 0, 1) := by decide +kernel
theorem dL_law_187 : decode cL_law 187 = .ok (.iload_n 3, 1) := by decide +kernel
theorem dL_law_188 : decode cL_law 188 = .ok (.iconst 1, 1) := by decide +kernel
theorem dL_law_189 : decode cL_law 189 = .ok (.iadd, 1) := by decide +kernel
theorem dL_law_190 : decode cL_law 190 = .ok (.iaload, 1) := by decide +kernel
theorem dL_law_191 : decode cL_law 191 = .ok (.aload_n 0, 1) := by decide +kernel
theorem dL_law_192 : decode cL_law 192 = .ok (.iload_n 3, 1) := by decide +kernel
theorem dL_law_193 : decode cL_law 193 = .ok (.iconst 2, 1) := by decide +kernel
theorem dL_law_194 : decode cL_law 194 = .ok (.iadd, 1) := by decide +kernel
theorem dL_law_195 : decode cL_law 195 = .ok (.iaload, 1) := by decide +kernel
theorem dL_law_196 : decode cL_law 196 = .ok (.aload_n 0, 1) := by decide +kernel
theorem dL_law_197 : decode cL_law 197 = .ok (.iload_n 3, 1) := by decide +kernel
theorem dL_law_198 : decode cL_law 198 = .ok (.iconst 3, 1) := by decide +kernel
theorem dL_law_199 : decode cL_law 199 = .ok (.iadd, 1) := by decide +kernel
theorem dL_law_200 : decode cL_law 200 = .ok (.iaload, 1) := by decide +kernel
theorem dL_law_201 : decode cL_law 201 = .ok (.aload_n 0, 1) := by decide +kernel
theorem dL_law_202 : decode cL_law 202 = .ok (.iload_n 3, 1) := by decide +kernel
theorem dL_law_203 : decode cL_law 203 = .ok (.iconst 4, 1) := by decide +kernel
theorem dL_law_204 : decode cL_law 204 = .ok (.iadd, 1) := by decide +kernel
theorem dL_law_205 : decode cL_law 205 = .ok (.iaload, 1) := by decide +kernel
theorem dL_law_206 : decode cL_law 206 = .ok (.aload_n 0, 1) := by decide +kernel
theorem dL_law_207 : decode cL_law 207 = .ok (.iload_n 3, 1) := by decide +kernel
theorem dL_law_208 : decode cL_law 208 = .ok (.iconst 5, 1) := by decide +kernel
theorem dL_law_209 : decode cL_law 209 = .ok (.iadd, 1) := by decide +kernel
theorem dL_law_210 : decode cL_law 210 = .ok (.iaload, 1) := by decide +kernel
theorem dL_law_211 : decode cL_law 211 = .ok (.invokevirtual 18, 3) := by decide +kernel
theorem dL_law_214 : decode cL_law 214 = .ok (.aload_n 2, 1) := by decide +kernel
theorem dL_law_215 : decode cL_law 215 = .ok (.aload_n 0, 1) := by decide +kernel
theorem dL_law_216 : decode cL_law 216 = .ok (.iload_n 3, 1) := by decide +kernel
theorem dL_law_217 : decode cL_law 217 = .ok (.iconst 1, 1) := by decide +kernel
theorem dL_law_218 : decode cL_law 218 = .ok (.iadd, 1) := by decide +kernel
theorem dL_law_219 : decode cL_law 219 = .ok (.iaload, 1) := by decide +kernel
theorem dL_law_220 : decode cL_law 220 = .ok (.aload_n 0, 1) := by decide +kernel
theorem dL_law_221 : decode cL_law 221 = .ok (.iload_n 3, 1) := by decide +kernel
theorem dL_law_222 : decode cL_law 222 = .ok (.iconst 2, 1) := by decide +kernel
theorem dL_law_223 : decode cL_law 223 = .ok (.iadd, 1) := by decide +kernel
theorem dL_law_224 : decode cL_law 224 = .ok (.iaload, 1) := by decide +kernel
theorem dL_law_225 : decode cL_law 225 = .ok (.aload_n 0, 1) := by decide +kernel
theorem dL_law_226 : decode cL_law 226 = .ok (.iload_n 3, 1) := by decide +kernel
theorem dL_law_227 : decode cL_law 227 = .ok (.iconst 3, 1) := by decide +kernel
theorem dL_law_228 : decode cL_law 228 = .ok (.iadd, 1) := by decide +kernel
theorem dL_law_229 : decode cL_law 229 = .ok (.iaload, 1) := by decide +kernel
theorem dL_law_230 : decode cL_law 230 = .ok (.aload_n 0, 1) := by decide +kernel
theorem dL_law_231 : decode cL_law 231 = .ok (.iload_n 3, 1) := by decide +kernel
theorem dL_law_232 : decode cL_law 232 = .ok (.iconst 4, 1) := by decide +kernel
theorem dL_law_233 : decode cL_law 233 = .ok (.iadd, 1) := by decide +kernel
theorem dL_law_234 : decode cL_law 234 = .ok (.iaload, 1) := by decide +kernel
theorem dL_law_235 : decode cL_law 235 = .ok (.aload_n 0, 1) := by decide +kernel
theorem dL_law_236 : decode cL_law 236 = .ok (.iload_n 3, 1) := by decide +kernel
theorem dL_law_237 : decode cL_law 237 = .ok (.iconst 5, 1) := by decide +kernel
theorem dL_law_238 : decode cL_law 238 = .ok (.iadd, 1) := by decide +kernel
theorem dL_law_239 : decode cL_law 239 = .ok (.iaload, 1) := by decide +kernel
theorem dL_law_240 : decode cL_law 240 = .ok (.invokevirtual 22, 3) := by decide +kernel
theorem dL_law_243 : decode cL_law 243 = .ok (.if_icmp .eq 575, 3) := by decide +kernel
theorem dL_law_248 : decode cL_law 248 = .ok (.aload_n 1, 1) := by decide +kernel
theorem dL_law_249 : decode cL_law 249 = .ok (.aload_n 0, 1) := by decide +kernel
theorem dL_law_250 : decode cL_law 250 = .ok (.iload_n 3, 1) := by decide +kernel
theorem dL_law_251 : decode cL_law 251 = .ok (.iconst 1, 1) := by decide +kernel
theorem dL_law_252 : decode cL_law 252 = .ok (.iadd, 1) := by decide +kernel
theorem dL_law_253 : decode cL_law 253 = .ok (.iaload, 1) := by decide +kernel
theorem dL_law_254 : decode cL_law 254 = .ok (.aload_n 0, 1) := by decide +kernel
theorem dL_law_255 : decode cL_law 255 = .ok (.iload_n 3, 1) := by decide +kernel
theorem dL_law_256 : decode cL_law 256 = .ok (.iconst 2, 1) := by decide +kernel
theorem dL_law_257 : decode cL_law 257 = .ok (.iadd, 1) := by decide +kernel
theorem dL_law_258 : decode cL_law 258 = .ok (.iaload, 1) := by decide +kernel
theorem dL_law_259 : decode cL_law 259 = .ok (.invokevirtual 23, 3) := by decide +kernel
theorem dL_law_262 : decode cL_law 262 = .ok (.aload_n 2, 1) := by decide +kernel
theorem dL_law_263 : decode cL_law 263 = .ok (.aload_n 0, 1) := by decide +kernel
theorem dL_law_264 : decode cL_law 264 = .ok (.iload_n 3, 1) := by decide +kernel
theorem dL_law_265 : decode cL_law 265 = .ok (.iconst 1, 1) := by decide +kernel
theorem dL_law_266 : decode cL_law 266 = .ok (.iadd, 1) := by decide +kernel
theorem dL_law_267 : decode cL_law 267 = .ok (.iaload, 1) := by decide +kernel
theorem dL_law_268 : decode cL_law 268 = .ok (.aload_n 0, 1) := by decide +kernel
theorem dL_law_269 : decode cL_law 269 = .ok (.iload_n 3, 1) := by decide +kernel
theorem dL_law_270 : decode cL_law 270 = .ok (.iconst 2, 1) := by decide +kernel
theorem dL_law_271 : decode cL_law 271 = .ok (.iadd, 1) := by decide +kernel
theorem dL_law_272 : decode cL_law 272 = .ok (.iaload, 1) := by decide +kernel
theorem dL_law_273 : decode cL_law 273 = .ok (.invokevirtual 27, 3) := by decide +kernel
theorem dL_law_276 : decode cL_law 276 = .ok (.if_icmp .eq 542, 3) := by decide +kernel
theorem dL_law_281 : decode cL_law 281 = .ok (.aload_n 1, 1) := by decide +kernel
theorem dL_law_282 : decode cL_law 282 = .ok (.aload_n 0, 1) := by decide +kernel
theorem dL_law_283 : decode cL_law 283 = .ok (.iload_n 3, 1) := by decide +kernel
theorem dL_law_284 : decode cL_law 284 = .ok (.iconst 1, 1) := by decide +kernel
theorem dL_law_285 : decode cL_law 285 = .ok (.iadd, 1) := by decide +kernel
theorem dL_law_286 : decode cL_law 286 = .ok (.iaload, 1) := by decide +kernel
theorem dL_law_287 : decode cL_law 287 = .ok (.aload_n 0, 1) := by decide +kernel
theorem dL_law_288 : decode cL_law 288 = .ok (.iload_n 3, 1) := by decide +kernel
theorem dL_law_289 : decode cL_law 289 = .ok (.iconst 2, 1) := by decide +kernel
theorem dL_law_290 : decode cL_law 290 = .ok (.iadd, 1) := by decide +kernel
theorem dL_law_291 : decode cL_law 291 = .ok (.iaload, 1) := by decide +kernel
theorem dL_law_292 : decode cL_law 292 = .ok (.aload_n 0, 1) := by decide +kernel
theorem dL_law_293 : decode cL_law 293 = .ok (.iload_n 3, 1) := by decide +kernel
theorem dL_law_294 : decode cL_law 294 = .ok (.iconst 3, 1) := by decide +kernel
theorem dL_law_295 : decode cL_law 295 = .ok (.iadd, 1) := by decide +kernel
theorem dL_law_296 : decode cL_law 296 = .ok (.iaload, 1) := by decide +kernel
theorem dL_law_297 : decode cL_law 297 = .ok (.aload_n 0, 1) := by decide +kernel
theorem dL_law_298 : decode cL_law 298 = .ok (.iload_n 3, 1) := by decide +kernel
theorem dL_law_299 : decode cL_law 299 = .ok (.iconst 4, 1) := by decide +kernel
theorem dL_law_300 : decode cL_law 300 = .ok (.iadd, 1) := by decide +kernel
theorem dL_law_301 : decode cL_law 301 = .ok (.iaload, 1) := by decide +kernel
theorem dL_law_302 : decode cL_law 302 = .ok (.aload_n 0, 1) := by decide +kernel
theorem dL_law_303 : decode cL_law 303 = .ok (.iload_n 3, 1) := by decide +kernel
theorem dL_law_304 : decode cL_law 304 = .ok (.iconst 5, 1) := by decide +kernel
theorem dL_law_305 : decode cL_law 305 = .ok (.iadd, 1) := by decide +kernel
theorem dL_law_306 : decode cL_law 306 = .ok (.iaload, 1) := by decide +kernel
theorem dL_law_307 : decode cL_law 307 = .ok (.invokevirtual 28, 3) := by decide +kernel
theorem dL_law_310 : decode cL_law 310 = .ok (.aload_n 2, 1) := by decide +kernel
theorem dL_law_311 : decode cL_law 311 = .ok (.aload_n 0, 1) := by decide +kernel
theorem dL_law_312 : decode cL_law 312 = .ok (.iload_n 3, 1) := by decide +kernel
theorem dL_law_313 : decode cL_law 313 = .ok (.iconst 1, 1) := by decide +kernel
theorem dL_law_314 : decode cL_law 314 = .ok (.iadd, 1) := by decide +kernel
theorem dL_law_315 : decode cL_law 315 = .ok (.iaload, 1) := by decide +kernel
theorem dL_law_316 : decode cL_law 316 = .ok (.aload_n 0, 1) := by decide +kernel
theorem dL_law_317 : decode cL_law 317 = .ok (.iload_n 3, 1) := by decide +kernel
theorem dL_law_318 : decode cL_law 318 = .ok (.iconst 2, 1) := by decide +kernel
theorem dL_law_319 : decode cL_law 319 = .ok (.iadd, 1) := by decide +kernel
theorem dL_law_320 : decode cL_law 320 = .ok (.iaload, 1) := by decide +kernel
theorem dL_law_321 : decode cL_law 321 = .ok (.aload_n 0, 1) := by decide +kernel
theorem dL_law_322 : decode cL_law 322 = .ok (.iload_n 3, 1) := by decide +kernel
theorem dL_law_323 : decode cL_law 323 = .ok (.iconst 3, 1) := by decide +kernel
theorem dL_law_324 : decode cL_law 324 = .ok (.iadd, 1) := by decide +kernel
theorem dL_law_325 : decode cL_law 325 = .ok (.iaload, 1) := by decide +kernel
theorem dL_law_326 : decode cL_law 326 = .ok (.aload_n 0, 1) := by decide +kernel
theorem dL_law_327 : decode cL_law 327 = .ok (.iload_n 3, 1) := by decide +kernel
theorem dL_law_328 : decode cL_law 328 = .ok (.iconst 4, 1) := by decide +kernel
theorem dL_law_329 : decode cL_law 329 = .ok (.iadd, 1) := by decide +kernel
theorem dL_law_330 : decode cL_law 330 = .ok (.iaload, 1) := by decide +kernel
theorem dL_law_331 : decode cL_law 331 = .ok (.aload_n 0, 1) := by decide +kernel
theorem dL_law_332 : decode cL_law 332 = .ok (.iload_n 3, 1) := by decide +kernel
theorem dL_law_333 : decode cL_law 333 = .ok (.iconst 5, 1) := by decide +kernel
theorem dL_law_334 : decode cL_law 334 = .ok (.iadd, 1) := by decide +kernel
theorem dL_law_335 : decode cL_law 335 = .ok (.iaload, 1) := by decide +kernel
theorem dL_law_336 : decode cL_law 336 = .ok (.invokevirtual 31, 3) := by decide +kernel
theorem dL_law_339 : decode cL_law 339 = .ok (.if_icmp .eq 479, 3) := by decide +kernel
theorem dL_law_344 : decode cL_law 344 = .ok (.aload_n 1, 1) := by decide +kernel
theorem dL_law_345 : decode cL_law 345 = .ok (.aload_n 0, 1) := by decide +kernel
theorem dL_law_346 : decode cL_law 346 = .ok (.iload_n 3, 1) := by decide +kernel
theorem dL_law_347 : decode cL_law 347 = .ok (.iconst 1, 1) := by decide +kernel
theorem dL_law_348 : decode cL_law 348 = .ok (.iadd, 1) := by decide +kernel
theorem dL_law_349 : decode cL_law 349 = .ok (.iaload, 1) := by decide +kernel
theorem dL_law_350 : decode cL_law 350 = .ok (.invokevirtual 32, 3) := by decide +kernel
theorem dL_law_353 : decode cL_law 353 = .ok (.aload_n 2, 1) := by decide +kernel
theorem dL_law_354 : decode cL_law 354 = .ok (.aload_n 0, 1) := by decide +kernel
theorem dL_law_355 : decode cL_law 355 = .ok (.iload_n 3, 1) := by decide +kernel
theorem dL_law_356 : decode cL_law 356 = .ok (.iconst 1, 1) := by decide +kernel
theorem dL_law_357 : decode cL_law 357 = .ok (.iadd, 1) := by decide +kernel
theorem dL_law_358 : decode cL_law 358 = .ok (.iaload, 1) := by decide +kernel
theorem dL_law_359 : decode cL_law 359 = .ok (.invokevirtual 36, 3) := by decide +kernel
theorem dL_law_362 : decode cL_law 362 = .ok (.if_icmp .eq 456, 3) := by decide +kernel
theorem dL_law_367 : decode cL_law 367 = .ok (.aload_n 1, 1) := by decide +kernel
theorem dL_law_368 : decode cL_law 368 = .ok (.invokevirtual 37, 3) := by decide +kernel
theorem dL_law_371 : decode cL_law 371 = .ok (.aload_n 2, 1) := by decide +kernel
theorem dL_law_372 : decode cL_law 372 = .ok (.invokevirtual 41, 3) := by decide +kernel
theorem dL_law_375 : decode cL_law 375 = .ok (.if_icmp .eq 443, 3) := by decide +kernel
theorem dL_law_380 : decode cL_law 380 = .ok (.aload_n 1, 1) := by decide +kernel
theorem dL_law_381 : decode cL_law 381 = .ok (.aload_n 0, 1) := by decide +kernel
theorem dL_law_382 : decode cL_law 382 = .ok (.iload_n 3, 1) := by decide +kernel
theorem dL_law_383 : decode cL_law 383 = .ok (.iconst 1, 1) := by decide +kernel
theorem dL_law_384 : decode cL_law 384 = .ok (.iadd, 1) := by decide +kernel
theorem dL_law_385 : decode cL_law 385 = .ok (.iaload, 1) := by decide +kernel
theorem dL_law_386 : decode cL_law 386 = .ok (.invokevirtual 42, 3) := by decide +kernel
theorem dL_law_389 : decode cL_law 389 = .ok (.aload_n 2, 1) := by decide +kernel
theorem dL_law_390 : decode cL_law 390 = .ok (.aload_n 0, 1) := by decide +kernel
theorem dL_law_391 : decode cL_law 391 = .ok (.iload_n 3, 1) := by decide +kernel
theorem dL_law_392 : decode cL_law 392 = .ok (.iconst 1, 1) := by decide +kernel
theorem dL_law_393 : decode cL_law 393 = .ok (.iadd, 1) := by decide +kernel
theorem dL_law_394 : decode cL_law 394 = .ok (.iaload, 1) := by decide +kernel
theorem dL_law_395 : decode cL_law 395 = .ok (.invokevirtual 45, 3) := by decide +kernel
theorem dL_law_398 : decode cL_law 398 = .ok (.if_icmp .eq 420, 3) := by decide +kernel
theorem dL_law_403 : decode cL_law 403 = .ok (.aload_n 1, 1) := by decide +kernel
theorem dL_law_404 : decode cL_law 404 = .ok (.aload_n 0, 1) := by decide +kernel
theorem dL_law_405 : decode cL_law 405 = .ok (.iload_n 3, 1) := by decide +kernel
theorem dL_law_406 : decode cL_law 406 = .ok (.iconst 1, 1) := by decide +kernel
theorem dL_law_407 : decode cL_law 407 = .ok (.iadd, 1) := by decide +kernel
theorem dL_law_408 : decode cL_law 408 = .ok (.iaload, 1) := by decide +kernel
theorem dL_law_409 : decode cL_law 409 = .ok (.invokevirtual 46, 3) := by decide +kernel
theorem dL_law_412 : decode cL_law 412 = .ok (.aload_n 2, 1) := by decide +kernel
theorem dL_law_413 : decode cL_law 413 = .ok (.aload_n 0, 1) := by decide +kernel
theorem dL_law_414 : decode cL_law 414 = .ok (.iload_n 3, 1) := by decide +kernel
theorem dL_law_415 : decode cL_law 415 = .ok (.iconst 1, 1) := by decide +kernel
theorem dL_law_416 : decode cL_law 416 = .ok (.iadd, 1) := by decide +kernel
theorem dL_law_417 : decode cL_law 417 = .ok (.iaload, 1) := by decide +kernel
theorem dL_law_418 : decode cL_law 418 = .ok (.invokevirtual 49, 3) := by decide +kernel
theorem dL_law_421 : decode cL_law 421 = .ok (.if_icmp .eq 397, 3) := by decide +kernel
theorem dL_law_426 : decode cL_law 426 = .ok (.aload_n 1, 1) := by decide +kernel
theorem dL_law_427 : decode cL_law 427 = .ok (.aload_n 0, 1) := by decide +kernel
theorem dL_law_428 : decode cL_law 428 = .ok (.iload_n 3, 1) := by decide +kernel
theorem dL_law_429 : decode cL_law 429 = .ok (.iconst 1, 1) := by decide +kernel
theorem dL_law_430 : decode cL_law 430 = .ok (.iadd, 1) := by decide +kernel
theorem dL_law_431 : decode cL_law 431 = .ok (.iaload, 1) := by decide +kernel
theorem dL_law_432 : decode cL_law 432 = .ok (.aload_n 0, 1) := by decide +kernel
theorem dL_law_433 : decode cL_law 433 = .ok (.iload_n 3, 1) := by decide +kernel
theorem dL_law_434 : decode cL_law 434 = .ok (.iconst 2, 1) := by decide +kernel
theorem dL_law_435 : decode cL_law 435 = .ok (.iadd, 1) := by decide +kernel
theorem dL_law_436 : decode cL_law 436 = .ok (.iaload, 1) := by decide +kernel
theorem dL_law_437 : decode cL_law 437 = .ok (.invokevirtual 50, 3) := by decide +kernel
theorem dL_law_440 : decode cL_law 440 = .ok (.aload_n 2, 1) := by decide +kernel
theorem dL_law_441 : decode cL_law 441 = .ok (.aload_n 0, 1) := by decide +kernel
theorem dL_law_442 : decode cL_law 442 = .ok (.iload_n 3, 1) := by decide +kernel
theorem dL_law_443 : decode cL_law 443 = .ok (.iconst 1, 1) := by decide +kernel
theorem dL_law_444 : decode cL_law 444 = .ok (.iadd, 1) := by decide +kernel
theorem dL_law_445 : decode cL_law 445 = .ok (.iaload, 1) := by decide +kernel
theorem dL_law_446 : decode cL_law 446 = .ok (.aload_n 0, 1) := by decide +kernel
theorem dL_law_447 : decode cL_law 447 = .ok (.iload_n 3, 1) := by decide +kernel
theorem dL_law_448 : decode cL_law 448 = .ok (.iconst 2, 1) := by decide +kernel
theorem dL_law_449 : decode cL_law 449 = .ok (.iadd, 1) := by decide +kernel
theorem dL_law_450 : decode cL_law 450 = .ok (.iaload, 1) := by decide +kernel
theorem dL_law_451 : decode cL_law 451 = .ok (.invokevirtual 53, 3) := by decide +kernel
theorem dL_law_454 : decode cL_law 454 = .ok (.if_icmp .eq 364, 3) := by decide +kernel
theorem dL_law_459 : decode cL_law 459 = .ok (.aload_n 1, 1) := by decide +kernel
theorem dL_law_460 : decode cL_law 460 = .ok (.aload_n 0, 1) := by decide +kernel
theorem dL_law_461 : decode cL_law 461 = .ok (.iload_n 3, 1) := by decide +kernel
theorem dL_law_462 : decode cL_law 462 = .ok (.iconst 1, 1) := by decide +kernel
theorem dL_law_463 : decode cL_law 463 = .ok (.iadd, 1) := by decide +kernel
theorem dL_law_464 : decode cL_law 464 = .ok (.iaload, 1) := by decide +kernel
theorem dL_law_465 : decode cL_law 465 = .ok (.aload_n 0, 1) := by decide +kernel
theorem dL_law_466 : decode cL_law 466 = .ok (.iload_n 3, 1) := by decide +kernel
theorem dL_law_467 : decode cL_law 467 = .ok (.iconst 2, 1) := by decide +kernel
theorem dL_law_468 : decode cL_law 468 = .ok (.iadd, 1) := by decide +kernel
theorem dL_law_469 : decode cL_law 469 = .ok (.iaload, 1) := by decide +kernel
theorem dL_law_470 : decode cL_law 470 = .ok (.aload_n 0, 1) := by decide +kernel
theorem dL_law_471 : decode cL_law 471 = .ok (.iload_n 3, 1) := by decide +kernel
theorem dL_law_472 : decode cL_law 472 = .ok (.iconst 3, 1) := by decide +kernel
theorem dL_law_473 : decode cL_law 473 = .ok (.iadd, 1) := by decide +kernel
theorem dL_law_474 : decode cL_law 474 = .ok (.iaload, 1) := by decide +kernel
theorem dL_law_475 : decode cL_law 475 = .ok (.invokevirtual 54, 3) := by decide +kernel
theorem dL_law_478 : decode cL_law 478 = .ok (.aload_n 2, 1) := by decide +kernel
theorem dL_law_479 : decode cL_law 479 = .ok (.aload_n 0, 1) := by decide +kernel
theorem dL_law_480 : decode cL_law 480 = .ok (.iload_n 3, 1) := by decide +kernel
theorem dL_law_481 : decode cL_law 481 = .ok (.iconst 1, 1) := by decide +kernel
theorem dL_law_482 : decode cL_law 482 = .ok (.iadd, 1) := by decide +kernel
theorem dL_law_483 : decode cL_law 483 = .ok (.iaload, 1) := by decide +kernel
theorem dL_law_484 : decode cL_law 484 = .ok (.aload_n 0, 1) := by decide +kernel
theorem dL_law_485 : decode cL_law 485 = .ok (.iload_n 3, 1) := by decide +kernel
theorem dL_law_486 : decode cL_law 486 = .ok (.iconst 2, 1) := by decide +kernel
theorem dL_law_487 : decode cL_law 487 = .ok (.iadd, 1) := by decide +kernel
theorem dL_law_488 : decode cL_law 488 = .ok (.iaload, 1) := by decide +kernel
theorem dL_law_489 : decode cL_law 489 = .ok (.aload_n 0, 1) := by decide +kernel
theorem dL_law_490 : decode cL_law 490 = .ok (.iload_n 3, 1) := by decide +kernel
theorem dL_law_491 : decode cL_law 491 = .ok (.iconst 3, 1) := by decide +kernel
theorem dL_law_492 : decode cL_law 492 = .ok (.iadd, 1) := by decide +kernel
theorem dL_law_493 : decode cL_law 493 = .ok (.iaload, 1) := by decide +kernel
theorem dL_law_494 : decode cL_law 494 = .ok (.invokevirtual 58, 3) := by decide +kernel
theorem dL_law_497 : decode cL_law 497 = .ok (.if_icmp .eq 321, 3) := by decide +kernel
theorem dL_law_502 : decode cL_law 502 = .ok (.aload_n 1, 1) := by decide +kernel
theorem dL_law_503 : decode cL_law 503 = .ok (.aload_n 0, 1) := by decide +kernel
theorem dL_law_504 : decode cL_law 504 = .ok (.iload_n 3, 1) := by decide +kernel
theorem dL_law_505 : decode cL_law 505 = .ok (.iconst 1, 1) := by decide +kernel
theorem dL_law_506 : decode cL_law 506 = .ok (.iadd, 1) := by decide +kernel
theorem dL_law_507 : decode cL_law 507 = .ok (.iaload, 1) := by decide +kernel
theorem dL_law_508 : decode cL_law 508 = .ok (.aload_n 0, 1) := by decide +kernel
theorem dL_law_509 : decode cL_law 509 = .ok (.iload_n 3, 1) := by decide +kernel
theorem dL_law_510 : decode cL_law 510 = .ok (.iconst 2, 1) := by decide +kernel
theorem dL_law_511 : decode cL_law 511 = .ok (.iadd, 1) := by decide +kernel
theorem dL_law_512 : decode cL_law 512 = .ok (.iaload, 1) := by decide +kernel
theorem dL_law_513 : decode cL_law 513 = .ok (.invokevirtual 59, 3) := by decide +kernel
theorem dL_law_516 : decode cL_law 516 = .ok (.aload_n 2, 1) := by decide +kernel
theorem dL_law_517 : decode cL_law 517 = .ok (.aload_n 0, 1) := by decide +kernel
theorem dL_law_518 : decode cL_law 518 = .ok (.iload_n 3, 1) := by decide +kernel
theorem dL_law_519 : decode cL_law 519 = .ok (.iconst 1, 1) := by decide +kernel
theorem dL_law_520 : decode cL_law 520 = .ok (.iadd, 1) := by decide +kernel
theorem dL_law_521 : decode cL_law 521 = .ok (.iaload, 1) := by decide +kernel
theorem dL_law_522 : decode cL_law 522 = .ok (.aload_n 0, 1) := by decide +kernel
theorem dL_law_523 : decode cL_law 523 = .ok (.iload_n 3, 1) := by decide +kernel
theorem dL_law_524 : decode cL_law 524 = .ok (.iconst 2, 1) := by decide +kernel
theorem dL_law_525 : decode cL_law 525 = .ok (.iadd, 1) := by decide +kernel
theorem dL_law_526 : decode cL_law 526 = .ok (.iaload, 1) := by decide +kernel
theorem dL_law_527 : decode cL_law 527 = .ok (.invokevirtual 63, 3) := by decide +kernel
theorem dL_law_530 : decode cL_law 530 = .ok (.if_icmp .eq 288, 3) := by decide +kernel
set_option maxHeartbeats 4000000 in
set_option maxRecDepth 100000 in
theorem lc_house {p : Program} {e : Env} {s : State} {m : MethodId} {below : List Frame} {meth : Method} {c : Code} (l : Launch) {sb L : Nat} {xs : Nat → Int32} (hL6 : L = 6) (C0 : lw_At p s m meth c sb L xs) {dC : Nat → ClassId} {dI : Nat → Nat → Nat} (hN : zz_N s) (a : Nat → Nat) (cH : ClassId) (fH : Nat → Option Nat) (b : Nat → Nat) (cI : ClassId) (cZ : ClassId) (hf : fH 0 = some (a 2)) {H : Heap} {locs : List Loc} {ls : Array Slot} (hK : va_K (dC, dI) vwCl [(cH, .object RX4), (cI, .int), (cZ, .boolean)] s) (hP : va_P (dC, dI) vwCl [(a 0, .inr (7, [.ref (a 1), .ref (a 10), .ref (a 23), .ref (a 24), .ref (a 26), .ref (a 29), .ref (a 34), .ref (a 43), .int 0, .int 0, .int 0, .int 0])), (a 1, .inl (cH, 8, .inr (.inr (.inr (.inr fH))))), (a 2, .inr (4, [.int 0, .int 0, .int 0, .int 0, .int 0, .int 0, .int 0, .int 0, .int 0])), (b 0, .inr (8, [.ref (b 1), .int 0, .int 0, .int 0, .int 0, .int 0, .int 0, .int 0, .int (-1), .int (-1), .ref (b 11), .ref (b 12), .ref (b 13), .int 0, .int 0, .ref (b 16), .ref (b 17), .ref (b 18), .ref (b 19), .ref (b 20), .ref (b 21), .ref (b 22), .ref (b 23), .ref (b 24), .int 0, .ref (b 26), .ref (b 27), .ref (b 28), .ref (b 29), .ref (b 30), .ref (b 31), .ref (b 32), .int 0, .int 0, .ref (b 35), .ref (b 36), .ref (b 37), .ref (b 38), .ref (b 39), .ref (b 40), .int 0, .ref (b 42), .ref (b 43), .ref (b 44), .int 0, .ref (b 46), .ref (b 47), .int 0, .ref (b 49)])), (b 16, .inl (cI, 8, .inl (fun _ => (0 : Int32)))), (b 17, .inl (cZ, 8, .inl (fun _ => (0 : Int32))))] H) (hD : va_D (fun q : Nat => s.heap.size ≤ q) [(a 0, .inr (7, [.ref (a 1), .ref (a 10), .ref (a 23), .ref (a 24), .ref (a 26), .ref (a 29), .ref (a 34), .ref (a 43), .int 0, .int 0, .int 0, .int 0])), (a 1, .inl (cH, 8, .inr (.inr (.inr (.inr fH))))), (a 2, .inr (4, [.int 0, .int 0, .int 0, .int 0, .int 0, .int 0, .int 0, .int 0, .int 0])), (b 0, .inr (8, [.ref (b 1), .int 0, .int 0, .int 0, .int 0, .int 0, .int 0, .int 0, .int (-1), .int (-1), .ref (b 11), .ref (b 12), .ref (b 13), .int 0, .int 0, .ref (b 16), .ref (b 17), .ref (b 18), .ref (b 19), .ref (b 20), .ref (b 21), .ref (b 22), .ref (b 23), .ref (b 24), .int 0, .ref (b 26), .ref (b 27), .ref (b 28), .ref (b 29), .ref (b 30), .ref (b 31), .ref (b 32), .int 0, .int 0, .ref (b 35), .ref (b 36), .ref (b 37), .ref (b 38), .ref (b 39), .ref (b 40), .int 0, .ref (b 42), .ref (b 43), .ref (b 44), .int 0, .ref (b 46), .ref (b 47), .int 0, .ref (b 49)])), (b 16, .inl (cI, 8, .inl (fun _ => (0 : Int32)))), (b 17, .inl (cZ, 8, .inl (fun _ => (0 : Int32))))]) (hS : va_S (fun q : Nat => s.heap.size ≤ q) s.heap H locs) (hl : lv_has ls 4 [(3, .int 0), (2, .ref (b 0)), (1, .ref (a 0)), (0, .ref sb)]) : W p l e room_1 s m #[Value.ref sb] below meth c H locs 85 4448 (lw_Z below #[Value.ref sb] s) (F0 m 136 ls []) := by
  obtain ⟨hx, hb, hr, hml, hown, hts, hX, hbl, hlocks, hgv⟩ := id C0
  have hw : ∀ w ∈ zz_all, w.before #[Value.ref sb] s = true := fun w h => hts w (zz_in_tbl h)
  have hown : s.vm.findClass RL = some m.cls := hown
  have hA : ∀ q : Nat, s.heap.size ≤ q → (fun q : Nat => s.heap.size ≤ q) q := fun _ h => h
  have hbA : ¬ (fun q : Nat => s.heap.size ≤ q) sb := Nat.not_le.mpr hbl
  refine lv_aload_n hx hb dL_law_136 rfl (lv_at hl 2 rfl) ?_
  refine lv_aload_n hx hb dL_law_137 rfl (lv_at hl 3 rfl) ?_
  refine lv_iload_n hx hb dL_law_138 rfl (lv_at hl 0 rfl) ?_
  refine lv_iconst (v := 1) hx hb dL_law_139 (by decide) ?_
  refine lv_iadd hx hb dL_law_140 ?_
  refine zz_seti 1 (by decide) ?_
  refine va_sld hx hb hX hbl hbA hS (by rw [hL6]; exact zz_vin (by decide)) dL_law_141 ?_
  refine lv_aload_n hx hb dL_law_142 rfl (lv_at hl 3 rfl) ?_
  refine lv_iload_n hx hb dL_law_143 rfl (lv_at hl 0 rfl) ?_
  refine lv_iconst (v := 2) hx hb dL_law_144 (by decide) ?_
  refine lv_iadd hx hb dL_law_145 ?_
  refine zz_seti 2 (by decide) ?_
  refine va_sld hx hb hX hbl hbA hS (by rw [hL6]; exact zz_vin (by decide)) dL_law_146 ?_
  refine lv_if_eq (tgt := 154) hx hb dL_law_147 (by decide) (fun c_1 => ?_) (fun c_1 => ?_)
  · refine lv_iconst (v := 0) hx hb dL_law_154 (by decide) ?_
    have hPc := hP.sub (ws' := [(a 0, .inr (7, [.ref (a 1), .ref (a 10), .ref (a 23), .ref (a 24), .ref (a 26), .ref (a 29), .ref (a 34), .ref (a 43), .int 0, .int 0, .int 0, .int 0])), (a 1, .inl (cH, 8, .inr (.inr (.inr (.inr fH))))), (a 2, .inr (4, [.int 0, .int 0, .int 0, .int 0, .int 0, .int 0, .int 0, .int 0, .int 0]))]) [0, 1, 2] rfl
    have hDc := hD.sub (ws' := [(a 0, .inr (7, [.ref (a 1), .ref (a 10), .ref (a 23), .ref (a 24), .ref (a 26), .ref (a 29), .ref (a 34), .ref (a 43), .int 0, .int 0, .int 0, .int 0])), (a 1, .inl (cH, 8, .inr (.inr (.inr (.inr fH))))), (a 2, .inr (4, [.int 0, .int 0, .int 0, .int 0, .int 0, .int 0, .int 0, .int 0, .int 0]))]) [0, 1, 2] (by decide) rfl
    have hKc := hK.sub (tys' := [(cH, .object RX4)]) [0] rfl
    have hFc := va_free (wc := [(a 0, .inr (7, [.ref (a 1), .ref (a 10), .ref (a 23), .ref (a 24), .ref (a 26), .ref (a 29), .ref (a 34), .ref (a 43), .int 0, .int 0, .int 0, .int 0])), (a 1, .inl (cH, 8, .inr (.inr (.inr (.inr fH))))), (a 2, .inr (4, [.int 0, .int 0, .int 0, .int 0, .int 0, .int 0, .int 0, .int 0, .int 0]))]) hD hS hA [0, 1, 2] rfl
    refine va_calli (va_runV (As := [.int (xs (Int32.toNatClampNeg 1)), .int 0]) (rest := []) ⟨hx, hb, hml, hown, hw⟩ (k_house l dC dI a cH fH (xs (Int32.toNatClampNeg 1)) 0 H.size hf (Or.inl rfl)) ⟨callB_of 2 hw (zz_good tw_260) rfl rfl rfl (hw _ tw_2) (hw _ tw_261) (by decide +kernel) ⟨Nat.le_of_ble_eq_true rfl, Nat.le_of_ble_eq_true rfl⟩, (hw _ tw_262), (hw _ tw_263)⟩ ⟨zz_blind, va_recv hKc hPc (ci := 7) (q0 := 0) rfl rfl, zz_pre hPc hKc hDc hN⟩ rfl rfl hl.1 rfl (lv_room (Nat.le_of_ble_eq_true rfl)) dL_law_155 ⟨Nat.le_of_ble_eq_true rfl, Nat.le_of_ble_eq_true rfl⟩) hS (fun q _ h => hFc q h) hFc (fun r_2 u_2 t H1 locs ht hvm e_2 hB hz1 hk1 hS => ?_)
    try dsimp only at e_2
    have hP1 : va_P (dC, dI) vwCl [] H1 := zz_P0
    have hD1 : va_D (va_A [(a 0, .inr (7, [.ref (a 1), .ref (a 10), .ref (a 23), .ref (a 24), .ref (a 26), .ref (a 29), .ref (a 34), .ref (a 43), .int 0, .int 0, .int 0, .int 0])), (a 1, .inl (cH, 8, .inr (.inr (.inr (.inr fH))))), (a 2, .inr (4, [.int 0, .int 0, .int 0, .int 0, .int 0, .int 0, .int 0, .int 0, .int 0]))] H.size) [] := zz_D0
    obtain ⟨hP, hD⟩ := va_join (wr := [(b 0, .inr (8, [.ref (b 1), .int 0, .int 0, .int 0, .int 0, .int 0, .int 0, .int 0, .int (-1), .int (-1), .ref (b 11), .ref (b 12), .ref (b 13), .int 0, .int 0, .ref (b 16), .ref (b 17), .ref (b 18), .ref (b 19), .ref (b 20), .ref (b 21), .ref (b 22), .ref (b 23), .ref (b 24), .int 0, .ref (b 26), .ref (b 27), .ref (b 28), .ref (b 29), .ref (b 30), .ref (b 31), .ref (b 32), .int 0, .int 0, .ref (b 35), .ref (b 36), .ref (b 37), .ref (b 38), .ref (b 39), .ref (b 40), .int 0, .ref (b 42), .ref (b 43), .ref (b 44), .int 0, .ref (b 46), .ref (b 47), .int 0, .ref (b 49)])), (b 16, .inl (cI, 8, .inl (fun _ => (0 : Int32)))), (b 17, .inl (cZ, 8, .inl (fun _ => (0 : Int32))))]) (w1 := []) hP hD [0, 1, 2] [3, 4, 5] rfl rfl (by decide) (by decide) hk1 hFc hP1 hD1
    clear hk1 ht hvm
    generalize H1 = H at hP hS ⊢
    have hP : va_P (dC, dI) vwCl [(b 0, .inr (8, [.ref (b 1), .int 0, .int 0, .int 0, .int 0, .int 0, .int 0, .int 0, .int (-1), .int (-1), .ref (b 11), .ref (b 12), .ref (b 13), .int 0, .int 0, .ref (b 16), .ref (b 17), .ref (b 18), .ref (b 19), .ref (b 20), .ref (b 21), .ref (b 22), .ref (b 23), .ref (b 24), .int 0, .ref (b 26), .ref (b 27), .ref (b 28), .ref (b 29), .ref (b 30), .ref (b 31), .ref (b 32), .int 0, .int 0, .ref (b 35), .ref (b 36), .ref (b 37), .ref (b 38), .ref (b 39), .ref (b 40), .int 0, .ref (b 42), .ref (b 43), .ref (b 44), .int 0, .ref (b 46), .ref (b 47), .int 0, .ref (b 49)])), (b 16, .inl (cI, 8, .inl (fun _ => (0 : Int32)))), (b 17, .inl (cZ, 8, .inl (fun _ => (0 : Int32))))] H := hP
    have hD : va_D (fun q : Nat => s.heap.size ≤ q) [(b 0, .inr (8, [.ref (b 1), .int 0, .int 0, .int 0, .int 0, .int 0, .int 0, .int 0, .int (-1), .int (-1), .ref (b 11), .ref (b 12), .ref (b 13), .int 0, .int 0, .ref (b 16), .ref (b 17), .ref (b 18), .ref (b 19), .ref (b 20), .ref (b 21), .ref (b 22), .ref (b 23), .ref (b 24), .int 0, .ref (b 26), .ref (b 27), .ref (b 28), .ref (b 29), .ref (b 30), .ref (b 31), .ref (b 32), .int 0, .int 0, .ref (b 35), .ref (b 36), .ref (b 37), .ref (b 38), .ref (b 39), .ref (b 40), .int 0, .ref (b 42), .ref (b 43), .ref (b 44), .int 0, .ref (b 46), .ref (b 47), .int 0, .ref (b 49)])), (b 16, .inl (cI, 8, .inl (fun _ => (0 : Int32)))), (b 17, .inl (cZ, 8, .inl (fun _ => (0 : Int32))))] := hD
    refine lv_aload_n hx hb dL_law_158 rfl (lv_at hl 1 rfl) ?_
    refine lv_aload_n hx hb dL_law_159 rfl (lv_at hl 3 rfl) ?_
    refine lv_iload_n hx hb dL_law_160 rfl (lv_at hl 0 rfl) ?_
    refine lv_iconst (v := 1) hx hb dL_law_161 (by decide) ?_
    refine lv_iadd hx hb dL_law_162 ?_
    refine zz_seti 1 (by decide) ?_
    refine va_sld hx hb hX hbl hbA hS (by rw [hL6]; exact zz_vin (by decide)) dL_law_163 ?_
    refine lv_aload_n hx hb dL_law_164 rfl (lv_at hl 3 rfl) ?_
    refine lv_iload_n hx hb dL_law_165 rfl (lv_at hl 0 rfl) ?_
    refine lv_iconst (v := 2) hx hb dL_law_166 (by decide) ?_
    refine lv_iadd hx hb dL_law_167 ?_
    refine zz_seti 2 (by decide) ?_
    refine va_sld hx hb hX hbl hbA hS (by rw [hL6]; exact zz_vin (by decide)) dL_law_168 ?_
    refine lv_if_eq (tgt := 176) hx hb dL_law_169 (by decide) (fun c_3 => ?_) (fun c_3 => ?_)
    · refine lv_iconst (v := 0) hx hb dL_law_176 (by decide) ?_
      have hPc := hP.sub (ws' := [(b 0, .inr (8, [.ref (b 1), .int 0, .int 0, .int 0, .int 0, .int 0, .int 0, .int 0, .int (-1), .int (-1), .ref (b 11), .ref (b 12), .ref (b 13), .int 0, .int 0, .ref (b 16), .ref (b 17), .ref (b 18), .ref (b 19), .ref (b 20), .ref (b 21), .ref (b 22), .ref (b 23), .ref (b 24), .int 0, .ref (b 26), .ref (b 27), .ref (b 28), .ref (b 29), .ref (b 30), .ref (b 31), .ref (b 32), .int 0, .int 0, .ref (b 35), .ref (b 36), .ref (b 37), .ref (b 38), .ref (b 39), .ref (b 40), .int 0, .ref (b 42), .ref (b 43), .ref (b 44), .int 0, .ref (b 46), .ref (b 47), .int 0, .ref (b 49)])), (b 16, .inl (cI, 8, .inl (fun _ => (0 : Int32)))), (b 17, .inl (cZ, 8, .inl (fun _ => (0 : Int32))))]) [0, 1, 2] rfl
      have hDc := hD.sub (ws' := [(b 0, .inr (8, [.ref (b 1), .int 0, .int 0, .int 0, .int 0, .int 0, .int 0, .int 0, .int (-1), .int (-1), .ref (b 11), .ref (b 12), .ref (b 13), .int 0, .int 0, .ref (b 16), .ref (b 17), .ref (b 18), .ref (b 19), .ref (b 20), .ref (b 21), .ref (b 22), .ref (b 23), .ref (b 24), .int 0, .ref (b 26), .ref (b 27), .ref (b 28), .ref (b 29), .ref (b 30), .ref (b 31), .ref (b 32), .int 0, .int 0, .ref (b 35), .ref (b 36), .ref (b 37), .ref (b 38), .ref (b 39), .ref (b 40), .int 0, .ref (b 42), .ref (b 43), .ref (b 44), .int 0, .ref (b 46), .ref (b 47), .int 0, .ref (b 49)])), (b 16, .inl (cI, 8, .inl (fun _ => (0 : Int32)))), (b 17, .inl (cZ, 8, .inl (fun _ => (0 : Int32))))]) [0, 1, 2] (by decide) rfl
      have hKc := hK.sub (tys' := [(cI, .int), (cZ, .boolean)]) [1, 2] rfl
      have hFc := va_free (wc := [(b 0, .inr (8, [.ref (b 1), .int 0, .int 0, .int 0, .int 0, .int 0, .int 0, .int 0, .int (-1), .int (-1), .ref (b 11), .ref (b 12), .ref (b 13), .int 0, .int 0, .ref (b 16), .ref (b 17), .ref (b 18), .ref (b 19), .ref (b 20), .ref (b 21), .ref (b 22), .ref (b 23), .ref (b 24), .int 0, .ref (b 26), .ref (b 27), .ref (b 28), .ref (b 29), .ref (b 30), .ref (b 31), .ref (b 32), .int 0, .int 0, .ref (b 35), .ref (b 36), .ref (b 37), .ref (b 38), .ref (b 39), .ref (b 40), .int 0, .ref (b 42), .ref (b 43), .ref (b 44), .int 0, .ref (b 46), .ref (b 47), .int 0, .ref (b 49)])), (b 16, .inl (cI, 8, .inl (fun _ => (0 : Int32)))), (b 17, .inl (cZ, 8, .inl (fun _ => (0 : Int32))))]) hD hS hA [0, 1, 2] rfl
      refine va_calli (va_runV (As := [.int (xs (Int32.toNatClampNeg 1)), .int 0]) (rest := [.int r_2]) ⟨hx, hb, hml, hown, hw⟩ (m_house l dC dI b cI cZ (xs (Int32.toNatClampNeg 1)) 0 H.size) ⟨callB_of 2 hw (zz_good tw_264) rfl rfl rfl (hw _ tw_95) (hw _ tw_265) (by decide +kernel) ⟨Nat.le_of_ble_eq_true rfl, Nat.le_of_ble_eq_true rfl⟩, (hw _ tw_266), (hw _ tw_267)⟩ ⟨zz_blind, va_recv hKc hPc (ci := 8) (q0 := 0) rfl rfl, zz_pre hPc hKc hDc hN⟩ rfl rfl hl.1 rfl (lv_room (Nat.le_of_ble_eq_true rfl)) dL_law_177 ⟨Nat.le_of_ble_eq_true rfl, Nat.le_of_ble_eq_true rfl⟩) hS (fun q _ h => hFc q h) hFc (fun r_4 u_4 t H1 locs ht hvm e_4 hB hz1 hk1 hS => ?_)
      try dsimp only at e_4
      have hP1 : va_P (dC, dI) vwCl [] H1 := zz_P0
      have hD1 : va_D (va_A [(b 0, .inr (8, [.ref (b 1), .int 0, .int 0, .int 0, .int 0, .int 0, .int 0, .int 0, .int (-1), .int (-1), .ref (b 11), .ref (b 12), .ref (b 13), .int 0, .int 0, .ref (b 16), .ref (b 17), .ref (b 18), .ref (b 19), .ref (b 20), .ref (b 21), .ref (b 22), .ref (b 23), .ref (b 24), .int 0, .ref (b 26), .ref (b 27), .ref (b 28), .ref (b 29), .ref (b 30), .ref (b 31), .ref (b 32), .int 0, .int 0, .ref (b 35), .ref (b 36), .ref (b 37), .ref (b 38), .ref (b 39), .ref (b 40), .int 0, .ref (b 42), .ref (b 43), .ref (b 44), .int 0, .ref (b 46), .ref (b 47), .int 0, .ref (b 49)])), (b 16, .inl (cI, 8, .inl (fun _ => (0 : Int32)))), (b 17, .inl (cZ, 8, .inl (fun _ => (0 : Int32))))] H.size) [] := zz_D0
      obtain ⟨hP, hD⟩ := va_join (wr := []) (w1 := []) hP hD [0, 1, 2] [] rfl rfl (by decide) (by decide) hk1 hFc hP1 hD1
      clear hk1 ht hvm
      generalize H1 = H at hP hS ⊢
      have hP : va_P (dC, dI) vwCl [] H := hP
      have hD : va_D (fun q : Nat => s.heap.size ≤ q) [] := hD
      refine lv_icmp_eq (tgt := 818) hx hb dL_law_180 (by decide) (fun _ => ?_) (fun c_5 => absurd c_5 (fun z9 => z9 (e_2.trans e_4.symm)))
      exact law_end l hL6 C0 hS (lv_sub hl [0, 3] rfl) (by decide) (by decide)
    · refine lv_iconst (v := 1) hx hb dL_law_172 (by decide) ?_
      refine lv_goto (tgt := 177) hx hb dL_law_173 (by decide) ?_
      have hPc := hP.sub (ws' := [(b 0, .inr (8, [.ref (b 1), .int 0, .int 0, .int 0, .int 0, .int 0, .int 0, .int 0, .int (-1), .int (-1), .ref (b 11), .ref (b 12), .ref (b 13), .int 0, .int 0, .ref (b 16), .ref (b 17), .ref (b 18), .ref (b 19), .ref (b 20), .ref (b 21), .ref (b 22), .ref (b 23), .ref (b 24), .int 0, .ref (b 26), .ref (b 27), .ref (b 28), .ref (b 29), .ref (b 30), .ref (b 31), .ref (b 32), .int 0, .int 0, .ref (b 35), .ref (b 36), .ref (b 37), .ref (b 38), .ref (b 39), .ref (b 40), .int 0, .ref (b 42), .ref (b 43), .ref (b 44), .int 0, .ref (b 46), .ref (b 47), .int 0, .ref (b 49)])), (b 16, .inl (cI, 8, .inl (fun _ => (0 : Int32)))), (b 17, .inl (cZ, 8, .inl (fun _ => (0 : Int32))))]) [0, 1, 2] rfl
      have hDc := hD.sub (ws' := [(b 0, .inr (8, [.ref (b 1), .int 0, .int 0, .int 0, .int 0, .int 0, .int 0, .int 0, .int (-1), .int (-1), .ref (b 11), .ref (b 12), .ref (b 13), .int 0, .int 0, .ref (b 16), .ref (b 17), .ref (b 18), .ref (b 19), .ref (b 20), .ref (b 21), .ref (b 22), .ref (b 23), .ref (b 24), .int 0, .ref (b 26), .ref (b 27), .ref (b 28), .ref (b 29), .ref (b 30), .ref (b 31), .ref (b 32), .int 0, .int 0, .ref (b 35), .ref (b 36), .ref (b 37), .ref (b 38), .ref (b 39), .ref (b 40), .int 0, .ref (b 42), .ref (b 43), .ref (b 44), .int 0, .ref (b 46), .ref (b 47), .int 0, .ref (b 49)])), (b 16, .inl (cI, 8, .inl (fun _ => (0 : Int32)))), (b 17, .inl (cZ, 8, .inl (fun _ => (0 : Int32))))]) [0, 1, 2] (by decide) rfl
      have hKc := hK.sub (tys' := [(cI, .int), (cZ, .boolean)]) [1, 2] rfl
      have hFc := va_free (wc := [(b 0, .inr (8, [.ref (b 1), .int 0, .int 0, .int 0, .int 0, .int 0, .int 0, .int 0, .int (-1), .int (-1), .ref (b 11), .ref (b 12), .ref (b 13), .int 0, .int 0, .ref (b 16), .ref (b 17), .ref (b 18), .ref (b 19), .ref (b 20), .ref (b 21), .ref (b 22), .ref (b 23), .ref (b 24), .int 0, .ref (b 26), .ref (b 27), .ref (b 28), .ref (b 29), .ref (b 30), .ref (b 31), .ref (b 32), .int 0, .int 0, .ref (b 35), .ref (b 36), .ref (b 37), .ref (b 38), .ref (b 39), .ref (b 40), .int 0, .ref (b 42), .ref (b 43), .ref (b 44), .int 0, .ref (b 46), .ref (b 47), .int 0, .ref (b 49)])), (b 16, .inl (cI, 8, .inl (fun _ => (0 : Int32)))), (b 17, .inl (cZ, 8, .inl (fun _ => (0 : Int32))))]) hD hS hA [0, 1, 2] rfl
      refine va_calli (va_runV (As := [.int (xs (Int32.toNatClampNeg 1)), .int 1]) (rest := [.int r_2]) ⟨hx, hb, hml, hown, hw⟩ (m_house l dC dI b cI cZ (xs (Int32.toNatClampNeg 1)) 1 H.size) ⟨callB_of 2 hw (zz_good tw_264) rfl rfl rfl (hw _ tw_95) (hw _ tw_265) (by decide +kernel) ⟨Nat.le_of_ble_eq_true rfl, Nat.le_of_ble_eq_true rfl⟩, (hw _ tw_266), (hw _ tw_267)⟩ ⟨zz_blind, va_recv hKc hPc (ci := 8) (q0 := 0) rfl rfl, zz_pre hPc hKc hDc hN⟩ rfl rfl hl.1 rfl (lv_room (Nat.le_of_ble_eq_true rfl)) dL_law_177 ⟨Nat.le_of_ble_eq_true rfl, Nat.le_of_ble_eq_true rfl⟩) hS (fun q _ h => hFc q h) hFc (fun r_6 u_6 t H1 locs ht hvm e_6 hB hz1 hk1 hS => ?_)
      try dsimp only at e_6
      have hP1 : va_P (dC, dI) vwCl [] H1 := zz_P0
      have hD1 : va_D (va_A [(b 0, .inr (8, [.ref (b 1), .int 0, .int 0, .int 0, .int 0, .int 0, .int 0, .int 0, .int (-1), .int (-1), .ref (b 11), .ref (b 12), .ref (b 13), .int 0, .int 0, .ref (b 16), .ref (b 17), .ref (b 18), .ref (b 19), .ref (b 20), .ref (b 21), .ref (b 22), .ref (b 23), .ref (b 24), .int 0, .ref (b 26), .ref (b 27), .ref (b 28), .ref (b 29), .ref (b 30), .ref (b 31), .ref (b 32), .int 0, .int 0, .ref (b 35), .ref (b 36), .ref (b 37), .ref (b 38), .ref (b 39), .ref (b 40), .int 0, .ref (b 42), .ref (b 43), .ref (b 44), .int 0, .ref (b 46), .ref (b 47), .int 0, .ref (b 49)])), (b 16, .inl (cI, 8, .inl (fun _ => (0 : Int32)))), (b 17, .inl (cZ, 8, .inl (fun _ => (0 : Int32))))] H.size) [] := zz_D0
      obtain ⟨hP, hD⟩ := va_join (wr := []) (w1 := []) hP hD [0, 1, 2] [] rfl rfl (by decide) (by decide) hk1 hFc hP1 hD1
      clear hk1 ht hvm
      generalize H1 = H at hP hS ⊢
      have hP : va_P (dC, dI) vwCl [] H := hP
      have hD : va_D (fun q : Nat => s.heap.size ≤ q) [] := hD
      refine lv_icmp_eq (tgt := 818) hx hb dL_law_180 (by decide) (fun _ => ?_) (fun c_7 => absurd c_7 (fun z9 => z9 (e_2.trans e_6.symm)))
      exact law_end l hL6 C0 hS (lv_sub hl [0, 3] rfl) (by decide) (by decide)
  · refine lv_iconst (v := 1) hx hb dL_law_150 (by decide) ?_
    refine lv_goto (tgt := 155) hx hb dL_law_151 (by decide) ?_
    have hPc := hP.sub (ws' := [(a 0, .inr (7, [.ref (a 1), .ref (a 10), .ref (a 23), .ref (a 24), .ref (a 26), .ref (a 29), .ref (a 34), .ref (a 43), .int 0, .int 0, .int 0, .int 0])), (a 1, .inl (cH, 8, .inr (.inr (.inr (.inr fH))))), (a 2, .inr (4, [.int 0, .int 0, .int 0, .int 0, .int 0, .int 0, .int 0, .int 0, .int 0]))]) [0, 1, 2] rfl
    have hDc := hD.sub (ws' := [(a 0, .inr (7, [.ref (a 1), .ref (a 10), .ref (a 23), .ref (a 24), .ref (a 26), .ref (a 29), .ref (a 34), .ref (a 43), .int 0, .int 0, .int 0, .int 0])), (a 1, .inl (cH, 8, .inr (.inr (.inr (.inr fH))))), (a 2, .inr (4, [.int 0, .int 0, .int 0, .int 0, .int 0, .int 0, .int 0, .int 0, .int 0]))]) [0, 1, 2] (by decide) rfl
    have hKc := hK.sub (tys' := [(cH, .object RX4)]) [0] rfl
    have hFc := va_free (wc := [(a 0, .inr (7, [.ref (a 1), .ref (a 10), .ref (a 23), .ref (a 24), .ref (a 26), .ref (a 29), .ref (a 34), .ref (a 43), .int 0, .int 0, .int 0, .int 0])), (a 1, .inl (cH, 8, .inr (.inr (.inr (.inr fH))))), (a 2, .inr (4, [.int 0, .int 0, .int 0, .int 0, .int 0, .int 0, .int 0, .int 0, .int 0]))]) hD hS hA [0, 1, 2] rfl
    refine va_calli (va_runV (As := [.int (xs (Int32.toNatClampNeg 1)), .int 1]) (rest := []) ⟨hx, hb, hml, hown, hw⟩ (k_house l dC dI a cH fH (xs (Int32.toNatClampNeg 1)) 1 H.size hf (Or.inr rfl)) ⟨callB_of 2 hw (zz_good tw_260) rfl rfl rfl (hw _ tw_2) (hw _ tw_261) (by decide +kernel) ⟨Nat.le_of_ble_eq_true rfl, Nat.le_of_ble_eq_true rfl⟩, (hw _ tw_262), (hw _ tw_263)⟩ ⟨zz_blind, va_recv hKc hPc (ci := 7) (q0 := 0) rfl rfl, zz_pre hPc hKc hDc hN⟩ rfl rfl hl.1 rfl (lv_room (Nat.le_of_ble_eq_true rfl)) dL_law_155 ⟨Nat.le_of_ble_eq_true rfl, Nat.le_of_ble_eq_true rfl⟩) hS (fun q _ h => hFc q h) hFc (fun r_8 u_8 t H1 locs ht hvm e_8 hB hz1 hk1 hS => ?_)
    try dsimp only at e_8
    have hP1 : va_P (dC, dI) vwCl [] H1 := zz_P0
    have hD1 : va_D (va_A [(a 0, .inr (7, [.ref (a 1), .ref (a 10), .ref (a 23), .ref (a 24), .ref (a 26), .ref (a 29), .ref (a 34), .ref (a 43), .int 0, .int 0, .int 0, .int 0])), (a 1, .inl (cH, 8, .inr (.inr (.inr (.inr fH))))), (a 2, .inr (4, [.int 0, .int 0, .int 0, .int 0, .int 0, .int 0, .int 0, .int 0, .int 0]))] H.size) [] := zz_D0
    obtain ⟨hP, hD⟩ := va_join (wr := [(b 0, .inr (8, [.ref (b 1), .int 0, .int 0, .int 0, .int 0, .int 0, .int 0, .int 0, .int (-1), .int (-1), .ref (b 11), .ref (b 12), .ref (b 13), .int 0, .int 0, .ref (b 16), .ref (b 17), .ref (b 18), .ref (b 19), .ref (b 20), .ref (b 21), .ref (b 22), .ref (b 23), .ref (b 24), .int 0, .ref (b 26), .ref (b 27), .ref (b 28), .ref (b 29), .ref (b 30), .ref (b 31), .ref (b 32), .int 0, .int 0, .ref (b 35), .ref (b 36), .ref (b 37), .ref (b 38), .ref (b 39), .ref (b 40), .int 0, .ref (b 42), .ref (b 43), .ref (b 44), .int 0, .ref (b 46), .ref (b 47), .int 0, .ref (b 49)])), (b 16, .inl (cI, 8, .inl (fun _ => (0 : Int32)))), (b 17, .inl (cZ, 8, .inl (fun _ => (0 : Int32))))]) (w1 := []) hP hD [0, 1, 2] [3, 4, 5] rfl rfl (by decide) (by decide) hk1 hFc hP1 hD1
    clear hk1 ht hvm
    generalize H1 = H at hP hS ⊢
    have hP : va_P (dC, dI) vwCl [(b 0, .inr (8, [.ref (b 1), .int 0, .int 0, .int 0, .int 0, .int 0, .int 0, .int 0, .int (-1), .int (-1), .ref (b 11), .ref (b 12), .ref (b 13), .int 0, .int 0, .ref (b 16), .ref (b 17), .ref (b 18), .ref (b 19), .ref (b 20), .ref (b 21), .ref (b 22), .ref (b 23), .ref (b 24), .int 0, .ref (b 26), .ref (b 27), .ref (b 28), .ref (b 29), .ref (b 30), .ref (b 31), .ref (b 32), .int 0, .int 0, .ref (b 35), .ref (b 36), .ref (b 37), .ref (b 38), .ref (b 39), .ref (b 40), .int 0, .ref (b 42), .ref (b 43), .ref (b 44), .int 0, .ref (b 46), .ref (b 47), .int 0, .ref (b 49)])), (b 16, .inl (cI, 8, .inl (fun _ => (0 : Int32)))), (b 17, .inl (cZ, 8, .inl (fun _ => (0 : Int32))))] H := hP
    have hD : va_D (fun q : Nat => s.heap.size ≤ q) [(b 0, .inr (8, [.ref (b 1), .int 0, .int 0, .int 0, .int 0, .int 0, .int 0, .int 0, .int (-1), .int (-1), .ref (b 11), .ref (b 12), .ref (b 13), .int 0, .int 0, .ref (b 16), .ref (b 17), .ref (b 18), .ref (b 19), .ref (b 20), .ref (b 21), .ref (b 22), .ref (b 23), .ref (b 24), .int 0, .ref (b 26), .ref (b 27), .ref (b 28), .ref (b 29), .ref (b 30), .ref (b 31), .ref (b 32), .int 0, .int 0, .ref (b 35), .ref (b 36), .ref (b 37), .ref (b 38), .ref (b 39), .ref (b 40), .int 0, .ref (b 42), .ref (b 43), .ref (b 44), .int 0, .ref (b 46), .ref (b 47), .int 0, .ref (b 49)])), (b 16, .inl (cI, 8, .inl (fun _ => (0 : Int32)))), (b 17, .inl (cZ, 8, .inl (fun _ => (0 : Int32))))] := hD
    refine lv_aload_n hx hb dL_law_158 rfl (lv_at hl 1 rfl) ?_
    refine lv_aload_n hx hb dL_law_159 rfl (lv_at hl 3 rfl) ?_
    refine lv_iload_n hx hb dL_law_160 rfl (lv_at hl 0 rfl) ?_
    refine lv_iconst (v := 1) hx hb dL_law_161 (by decide) ?_
    refine lv_iadd hx hb dL_law_162 ?_
    refine zz_seti 1 (by decide) ?_
    refine va_sld hx hb hX hbl hbA hS (by rw [hL6]; exact zz_vin (by decide)) dL_law_163 ?_
    refine lv_aload_n hx hb dL_law_164 rfl (lv_at hl 3 rfl) ?_
    refine lv_iload_n hx hb dL_law_165 rfl (lv_at hl 0 rfl) ?_
    refine lv_iconst (v := 2) hx hb dL_law_166 (by decide) ?_
    refine lv_iadd hx hb dL_law_167 ?_
    refine zz_seti 2 (by decide) ?_
    refine va_sld hx hb hX hbl hbA hS (by rw [hL6]; exact zz_vin (by decide)) dL_law_168 ?_
    refine lv_if_eq (tgt := 176) hx hb dL_law_169 (by decide) (fun c_9 => ?_) (fun c_9 => ?_)
    · refine lv_iconst (v := 0) hx hb dL_law_176 (by decide) ?_
      have hPc := hP.sub (ws' := [(b 0, .inr (8, [.ref (b 1), .int 0, .int 0, .int 0, .int 0, .int 0, .int 0, .int 0, .int (-1), .int (-1), .ref (b 11), .ref (b 12), .ref (b 13), .int 0, .int 0, .ref (b 16), .ref (b 17), .ref (b 18), .ref (b 19), .ref (b 20), .ref (b 21), .ref (b 22), .ref (b 23), .ref (b 24), .int 0, .ref (b 26), .ref (b 27), .ref (b 28), .ref (b 29), .ref (b 30), .ref (b 31), .ref (b 32), .int 0, .int 0, .ref (b 35), .ref (b 36), .ref (b 37), .ref (b 38), .ref (b 39), .ref (b 40), .int 0, .ref (b 42), .ref (b 43), .ref (b 44), .int 0, .ref (b 46), .ref (b 47), .int 0, .ref (b 49)])), (b 16, .inl (cI, 8, .inl (fun _ => (0 : Int32)))), (b 17, .inl (cZ, 8, .inl (fun _ => (0 : Int32))))]) [0, 1, 2] rfl
      have hDc := hD.sub (ws' := [(b 0, .inr (8, [.ref (b 1), .int 0, .int 0, .int 0, .int 0, .int 0, .int 0, .int 0, .int (-1), .int (-1), .ref (b 11), .ref (b 12), .ref (b 13), .int 0, .int 0, .ref (b 16), .ref (b 17), .ref (b 18), .ref (b 19), .ref (b 20), .ref (b 21), .ref (b 22), .ref (b 23), .ref (b 24), .int 0, .ref (b 26), .ref (b 27), .ref (b 28), .ref (b 29), .ref (b 30), .ref (b 31), .ref (b 32), .int 0, .int 0, .ref (b 35), .ref (b 36), .ref (b 37), .ref (b 38), .ref (b 39), .ref (b 40), .int 0, .ref (b 42), .ref (b 43), .ref (b 44), .int 0, .ref (b 46), .ref (b 47), .int 0, .ref (b 49)])), (b 16, .inl (cI, 8, .inl (fun _ => (0 : Int32)))), (b 17, .inl (cZ, 8, .inl (fun _ => (0 : Int32))))]) [0, 1, 2] (by decide) rfl
      have hKc := hK.sub (tys' := [(cI, .int), (cZ, .boolean)]) [1, 2] rfl
      have hFc := va_free (wc := [(b 0, .inr (8, [.ref (b 1), .int 0, .int 0, .int 0, .int 0, .int 0, .int 0, .int 0, .int (-1), .int (-1), .ref (b 11), .ref (b 12), .ref (b 13), .int 0, .int 0, .ref (b 16), .ref (b 17), .ref (b 18), .ref (b 19), .ref (b 20), .ref (b 21), .ref (b 22), .ref (b 23), .ref (b 24), .int 0, .ref (b 26), .ref (b 27), .ref (b 28), .ref (b 29), .ref (b 30), .ref (b 31), .ref (b 32), .int 0, .int 0, .ref (b 35), .ref (b 36), .ref (b 37), .ref (b 38), .ref (b 39), .ref (b 40), .int 0, .ref (b 42), .ref (b 43), .ref (b 44), .int 0, .ref (b 46), .ref (b 47), .int 0, .ref (b 49)])), (b 16, .inl (cI, 8, .inl (fun _ => (0 : Int32)))), (b 17, .inl (cZ, 8, .inl (fun _ => (0 : Int32))))]) hD hS hA [0, 1, 2] rfl
      refine va_calli (va_runV (As := [.int (xs (Int32.toNatClampNeg 1)), .int 0]) (rest := [.int r_8]) ⟨hx, hb, hml, hown, hw⟩ (m_house l dC dI b cI cZ (xs (Int32.toNatClampNeg 1)) 0 H.size) ⟨callB_of 2 hw (zz_good tw_264) rfl rfl rfl (hw _ tw_95) (hw _ tw_265) (by decide +kernel) ⟨Nat.le_of_ble_eq_true rfl, Nat.le_of_ble_eq_true rfl⟩, (hw _ tw_266), (hw _ tw_267)⟩ ⟨zz_blind, va_recv hKc hPc (ci := 8) (q0 := 0) rfl rfl, zz_pre hPc hKc hDc hN⟩ rfl rfl hl.1 rfl (lv_room (Nat.le_of_ble_eq_true rfl)) dL_law_177 ⟨Nat.le_of_ble_eq_true rfl, Nat.le_of_ble_eq_true rfl⟩) hS (fun q _ h => hFc q h) hFc (fun r_10 u_10 t H1 locs ht hvm e_10 hB hz1 hk1 hS => ?_)
      try dsimp only at e_10
      have hP1 : va_P (dC, dI) vwCl [] H1 := zz_P0
      have hD1 : va_D (va_A [(b 0, .inr (8, [.ref (b 1), .int 0, .int 0, .int 0, .int 0, .int 0, .int 0, .int 0, .int (-1), .int (-1), .ref (b 11), .ref (b 12), .ref (b 13), .int 0, .int 0, .ref (b 16), .ref (b 17), .ref (b 18), .ref (b 19), .ref (b 20), .ref (b 21), .ref (b 22), .ref (b 23), .ref (b 24), .int 0, .ref (b 26), .ref (b 27), .ref (b 28), .ref (b 29), .ref (b 30), .ref (b 31), .ref (b 32), .int 0, .int 0, .ref (b 35), .ref (b 36), .ref (b 37), .ref (b 38), .ref (b 39), .ref (b 40), .int 0, .ref (b 42), .ref (b 43), .ref (b 44), .int 0, .ref (b 46), .ref (b 47), .int 0, .ref (b 49)])), (b 16, .inl (cI, 8, .inl (fun _ => (0 : Int32)))), (b 17, .inl (cZ, 8, .inl (fun _ => (0 : Int32))))] H.size) [] := zz_D0
      obtain ⟨hP, hD⟩ := va_join (wr := []) (w1 := []) hP hD [0, 1, 2] [] rfl rfl (by decide) (by decide) hk1 hFc hP1 hD1
      clear hk1 ht hvm
      generalize H1 = H at hP hS ⊢
      have hP : va_P (dC, dI) vwCl [] H := hP
      have hD : va_D (fun q : Nat => s.heap.size ≤ q) [] := hD
      refine lv_icmp_eq (tgt := 818) hx hb dL_law_180 (by decide) (fun _ => ?_) (fun c_11 => absurd c_11 (fun z9 => z9 (e_8.trans e_10.symm)))
      exact law_end l hL6 C0 hS (lv_sub hl [0, 3] rfl) (by decide) (by decide)
    · refine lv_iconst (v := 1) hx hb dL_law_172 (by decide) ?_
      refine lv_goto (tgt := 177) hx hb dL_law_173 (by decide) ?_
      have hPc := hP.sub (ws' := [(b 0, .inr (8, [.ref (b 1), .int 0, .int 0, .int 0, .int 0, .int 0, .int 0, .int 0, .int (-1), .int (-1), .ref (b 11), .ref (b 12), .ref (b 13), .int 0, .int 0, .ref (b 16), .ref (b 17), .ref (b 18), .ref (b 19), .ref (b 20), .ref (b 21), .ref (b 22), .ref (b 23), .ref (b 24), .int 0, .ref (b 26), .ref (b 27), .ref (b 28), .ref (b 29), .ref (b 30), .ref (b 31), .ref (b 32), .int 0, .int 0, .ref (b 35), .ref (b 36), .ref (b 37), .ref (b 38), .ref (b 39), .ref (b 40), .int 0, .ref (b 42), .ref (b 43), .ref (b 44), .int 0, .ref (b 46), .ref (b 47), .int 0, .ref (b 49)])), (b 16, .inl (cI, 8, .inl (fun _ => (0 : Int32)))), (b 17, .inl (cZ, 8, .inl (fun _ => (0 : Int32))))]) [0, 1, 2] rfl
      have hDc := hD.sub (ws' := [(b 0, .inr (8, [.ref (b 1), .int 0, .int 0, .int 0, .int 0, .int 0, .int 0, .int 0, .int (-1), .int (-1), .ref (b 11), .ref (b 12), .ref (b 13), .int 0, .int 0, .ref (b 16), .ref (b 17), .ref (b 18), .ref (b 19), .ref (b 20), .ref (b 21), .ref (b 22), .ref (b 23), .ref (b 24), .int 0, .ref (b 26), .ref (b 27), .ref (b 28), .ref (b 29), .ref (b 30), .ref (b 31), .ref (b 32), .int 0, .int 0, .ref (b 35), .ref (b 36), .ref (b 37), .ref (b 38), .ref (b 39), .ref (b 40), .int 0, .ref (b 42), .ref (b 43), .ref (b 44), .int 0, .ref (b 46), .ref (b 47), .int 0, .ref (b 49)])), (b 16, .inl (cI, 8, .inl (fun _ => (0 : Int32)))), (b 17, .inl (cZ, 8, .inl (fun _ => (0 : Int32))))]) [0, 1, 2] (by decide) rfl
      have hKc := hK.sub (tys' := [(cI, .int), (cZ, .boolean)]) [1, 2] rfl
      have hFc := va_free (wc := [(b 0, .inr (8, [.ref (b 1), .int 0, .int 0, .int 0, .int 0, .int 0, .int 0, .int 0, .int (-1), .int (-1), .ref (b 11), .ref (b 12), .ref (b 13), .int 0, .int 0, .ref (b 16), .ref (b 17), .ref (b 18), .ref (b 19), .ref (b 20), .ref (b 21), .ref (b 22), .ref (b 23), .ref (b 24), .int 0, .ref (b 26), .ref (b 27), .ref (b 28), .ref (b 29), .ref (b 30), .ref (b 31), .ref (b 32), .int 0, .int 0, .ref (b 35), .ref (b 36), .ref (b 37), .ref (b 38), .ref (b 39), .ref (b 40), .int 0, .ref (b 42), .ref (b 43), .ref (b 44), .int 0, .ref (b 46), .ref (b 47), .int 0, .ref (b 49)])), (b 16, .inl (cI, 8, .inl (fun _ => (0 : Int32)))), (b 17, .inl (cZ, 8, .inl (fun _ => (0 : Int32))))]) hD hS hA [0, 1, 2] rfl
      refine va_calli (va_runV (As := [.int (xs (Int32.toNatClampNeg 1)), .int 1]) (rest := [.int r_8]) ⟨hx, hb, hml, hown, hw⟩ (m_house l dC dI b cI cZ (xs (Int32.toNatClampNeg 1)) 1 H.size) ⟨callB_of 2 hw (zz_good tw_264) rfl rfl rfl (hw _ tw_95) (hw _ tw_265) (by decide +kernel) ⟨Nat.le_of_ble_eq_true rfl, Nat.le_of_ble_eq_true rfl⟩, (hw _ tw_266), (hw _ tw_267)⟩ ⟨zz_blind, va_recv hKc hPc (ci := 8) (q0 := 0) rfl rfl, zz_pre hPc hKc hDc hN⟩ rfl rfl hl.1 rfl (lv_room (Nat.le_of_ble_eq_true rfl)) dL_law_177 ⟨Nat.le_of_ble_eq_true rfl, Nat.le_of_ble_eq_true rfl⟩) hS (fun q _ h => hFc q h) hFc (fun r_12 u_12 t H1 locs ht hvm e_12 hB hz1 hk1 hS => ?_)
      try dsimp only at e_12
      have hP1 : va_P (dC, dI) vwCl [] H1 := zz_P0
      have hD1 : va_D (va_A [(b 0, .inr (8, [.ref (b 1), .int 0, .int 0, .int 0, .int 0, .int 0, .int 0, .int 0, .int (-1), .int (-1), .ref (b 11), .ref (b 12), .ref (b 13), .int 0, .int 0, .ref (b 16), .ref (b 17), .ref (b 18), .ref (b 19), .ref (b 20), .ref (b 21), .ref (b 22), .ref (b 23), .ref (b 24), .int 0, .ref (b 26), .ref (b 27), .ref (b 28), .ref (b 29), .ref (b 30), .ref (b 31), .ref (b 32), .int 0, .int 0, .ref (b 35), .ref (b 36), .ref (b 37), .ref (b 38), .ref (b 39), .ref (b 40), .int 0, .ref (b 42), .ref (b 43), .ref (b 44), .int 0, .ref (b 46), .ref (b 47), .int 0, .ref (b 49)])), (b 16, .inl (cI, 8, .inl (fun _ => (0 : Int32)))), (b 17, .inl (cZ, 8, .inl (fun _ => (0 : Int32))))] H.size) [] := zz_D0
      obtain ⟨hP, hD⟩ := va_join (wr := []) (w1 := []) hP hD [0, 1, 2] [] rfl rfl (by decide) (by decide) hk1 hFc hP1 hD1
      clear hk1 ht hvm
      generalize H1 = H at hP hS ⊢
      have hP : va_P (dC, dI) vwCl [] H := hP
      have hD : va_D (fun q : Nat => s.heap.size ≤ q) [] := hD
      refine lv_icmp_eq (tgt := 818) hx hb dL_law_180 (by decide) (fun _ => ?_) (fun c_13 => absurd c_13 (fun z9 => z9 (e_8.trans e_12.symm)))
      exact law_end l hL6 C0 hS (lv_sub hl [0, 3] rfl) (by decide) (by decide)


set_option maxHeartbeats 4000000 in
set_option maxRecDepth 100000 in
theorem lc_field {p : Program} {e : Env} {s : State} {m : MethodId} {below : List Frame} {meth : Method} {c : Code} (l : Launch) {sb L : Nat} {xs : Nat → Int32} (hL6 : L = 6) (C0 : lw_At p s m meth c sb L xs) {dC : Nat → ClassId} {dI : Nat → Nat → Nat} (hN : zz_N s) (a : Nat → Nat) (b : Nat → Nat) {H : Heap} {locs : List Loc} {ls : Array Slot} (hK : va_K (dC, dI) vwCl [] s) (hP : va_P (dC, dI) vwCl [(a 0, .inr (7, [.ref (a 1), .ref (a 10), .ref (a 23), .ref (a 24), .ref (a 26), .ref (a 29), .ref (a 34), .ref (a 43), .int 0, .int 0, .int 0, .int 0])), (b 0, .inr (8, [.ref (b 1), .int 0, .int 0, .int 0, .int 0, .int 0, .int 0, .int 0, .int (-1), .int (-1), .ref (b 11), .ref (b 12), .ref (b 13), .int 0, .int 0, .ref (b 16), .ref (b 17), .ref (b 18), .ref (b 19), .ref (b 20), .ref (b 21), .ref (b 22), .ref (b 23), .ref (b 24), .int 0, .ref (b 26), .ref (b 27), .ref (b 28), .ref (b 29), .ref (b 30), .ref (b 31), .ref (b 32), .int 0, .int 0, .ref (b 35), .ref (b 36), .ref (b 37), .ref (b 38), .ref (b 39), .ref (b 40), .int 0, .ref (b 42), .ref (b 43), .ref (b 44), .int 0, .ref (b 46), .ref (b 47), .int 0, .ref (b 49)]))] H) (hD : va_D (fun q : Nat => s.heap.size ≤ q) [(a 0, .inr (7, [.ref (a 1), .ref (a 10), .ref (a 23), .ref (a 24), .ref (a 26), .ref (a 29), .ref (a 34), .ref (a 43), .int 0, .int 0, .int 0, .int 0])), (b 0, .inr (8, [.ref (b 1), .int 0, .int 0, .int 0, .int 0, .int 0, .int 0, .int 0, .int (-1), .int (-1), .ref (b 11), .ref (b 12), .ref (b 13), .int 0, .int 0, .ref (b 16), .ref (b 17), .ref (b 18), .ref (b 19), .ref (b 20), .ref (b 21), .ref (b 22), .ref (b 23), .ref (b 24), .int 0, .ref (b 26), .ref (b 27), .ref (b 28), .ref (b 29), .ref (b 30), .ref (b 31), .ref (b 32), .int 0, .int 0, .ref (b 35), .ref (b 36), .ref (b 37), .ref (b 38), .ref (b 39), .ref (b 40), .int 0, .ref (b 42), .ref (b 43), .ref (b 44), .int 0, .ref (b 46), .ref (b 47), .int 0, .ref (b 49)]))]) (hS : va_S (fun q : Nat => s.heap.size ≤ q) s.heap H locs) (hl : lv_has ls 4 [(3, .int 0), (2, .ref (b 0)), (1, .ref (a 0)), (0, .ref sb)]) : W p l e room_1 s m #[Value.ref sb] below meth c H locs 85 4448 (lw_Z below #[Value.ref sb] s) (F0 m 185 ls []) := by
  obtain ⟨hx, hb, hr, hml, hown, hts, hX, hbl, hlocks, hgv⟩ := id C0
  have hw : ∀ w ∈ zz_all, w.before #[Value.ref sb] s = true := fun w h => hts w (zz_in_tbl h)
  have hown : s.vm.findClass RL = some m.cls := hown
  have hA : ∀ q : Nat, s.heap.size ≤ q → (fun q : Nat => s.heap.size ≤ q) q := fun _ h => h
  have hbA : ¬ (fun q : Nat => s.heap.size ≤ q) sb := Nat.not_le.mpr hbl
  refine lv_aload_n hx hb dL_law_185 rfl (lv_at hl 2 rfl) ?_
  refine lv_aload_n hx hb dL_law_186 rfl (lv_at hl 3 rfl) ?_
  refine lv_iload_n hx hb dL_law_187 rfl (lv_at hl 0 rfl) ?_
  refine lv_iconst (v := 1) hx hb dL_law_188 (by decide) ?_
  refine lv_iadd hx hb dL_law_189 ?_
  refine zz_seti 1 (by decide) ?_
  refine va_sld hx hb hX hbl hbA hS (by rw [hL6]; exact zz_vin (by decide)) dL_law_190 ?_
  refine lv_aload_n hx hb dL_law_191 rfl (lv_at hl 3 rfl) ?_
  refine lv_iload_n hx hb dL_law_192 rfl (lv_at hl 0 rfl) ?_
  refine lv_iconst (v := 2) hx hb dL_law_193 (by decide) ?_
  refine lv_iadd hx hb dL_law_194 ?_
  refine zz_seti 2 (by decide) ?_
  refine va_sld hx hb hX hbl hbA hS (by rw [hL6]; exact zz_vin (by decide)) dL_law_195 ?_
  refine lv_aload_n hx hb dL_law_196 rfl (lv_at hl 3 rfl) ?_
  refine lv_iload_n hx hb dL_law_197 rfl (lv_at hl 0 rfl) ?_
  refine lv_iconst (v := 3) hx hb dL_law_198 (by decide) ?_
  refine lv_iadd hx hb dL_law_199 ?_
  refine zz_seti 3 (by decide) ?_
  refine va_sld hx hb hX hbl hbA hS (by rw [hL6]; exact zz_vin (by decide)) dL_law_200 ?_
  refine lv_aload_n hx hb dL_law_201 rfl (lv_at hl 3 rfl) ?_
  refine lv_iload_n hx hb dL_law_202 rfl (lv_at hl 0 rfl) ?_
  refine lv_iconst (v := 4) hx hb dL_law_203 (by decide) ?_
  refine lv_iadd hx hb dL_law_204 ?_
  refine zz_seti 4 (by decide) ?_
  refine va_sld hx hb hX hbl hbA hS (by rw [hL6]; exact zz_vin (by decide)) dL_law_205 ?_
  refine lv_aload_n hx hb dL_law_206 rfl (lv_at hl 3 rfl) ?_
  refine lv_iload_n hx hb dL_law_207 rfl (lv_at hl 0 rfl) ?_
  refine lv_iconst (v := 5) hx hb dL_law_208 (by decide) ?_
  refine lv_iadd hx hb dL_law_209 ?_
  refine zz_seti 5 (by decide) ?_
  refine va_sld hx hb hX hbl hbA hS (by rw [hL6]; exact zz_vin (by decide)) dL_law_210 ?_
  have hPc := hP.sub (ws' := [(a 0, .inr (7, [.ref (a 1), .ref (a 10), .ref (a 23), .ref (a 24), .ref (a 26), .ref (a 29), .ref (a 34), .ref (a 43), .int 0, .int 0, .int 0, .int 0]))]) [0] rfl
  have hDc := hD.sub (ws' := [(a 0, .inr (7, [.ref (a 1), .ref (a 10), .ref (a 23), .ref (a 24), .ref (a 26), .ref (a 29), .ref (a 34), .ref (a 43), .int 0, .int 0, .int 0, .int 0]))]) [0] (by decide) rfl
  have hKc := hK.sub (tys' := []) [] rfl
  have hFc := zz_free0 hS hA
  refine va_calli (va_runV (As := [.int (xs (Int32.toNatClampNeg 1)), .int (xs (Int32.toNatClampNeg 2)), .int (xs (Int32.toNatClampNeg 3)), .int (xs (Int32.toNatClampNeg 4)), .int (xs (Int32.toNatClampNeg 5))]) (rest := []) ⟨hx, hb, hml, hown, hw⟩ (k_field l dC dI a (xs (Int32.toNatClampNeg 1)) (xs (Int32.toNatClampNeg 2)) (xs (Int32.toNatClampNeg 3)) (xs (Int32.toNatClampNeg 4)) (xs (Int32.toNatClampNeg 5)) H.size) ⟨callB_of 5 hw (zz_good tw_268) rfl rfl rfl (hw _ tw_2) (hw _ tw_269) (by decide +kernel) ⟨Nat.le_of_ble_eq_true rfl, Nat.le_of_ble_eq_true rfl⟩, (hw _ tw_270), (hw _ tw_271)⟩ ⟨zz_blind, va_recv hKc hPc (ci := 7) (q0 := 0) rfl rfl, zz_pre hPc hKc hDc hN⟩ rfl rfl hl.1 rfl (lv_room (Nat.le_of_ble_eq_true rfl)) dL_law_211 ⟨Nat.le_of_ble_eq_true rfl, Nat.le_of_ble_eq_true rfl⟩) hS (fun q _ h => hFc q h) hFc (fun r_1 u_1 t H1 locs ht hvm e_1 hB hz1 hk1 hS => ?_)
  try dsimp only at e_1
  have hP := zz_keep hP hk1
  clear hk1 hB ht hvm
  generalize H1 = H at hP hS ⊢
  have hP : va_P (dC, dI) vwCl [(a 0, .inr (7, [.ref (a 1), .ref (a 10), .ref (a 23), .ref (a 24), .ref (a 26), .ref (a 29), .ref (a 34), .ref (a 43), .int 0, .int 0, .int 0, .int 0])), (b 0, .inr (8, [.ref (b 1), .int 0, .int 0, .int 0, .int 0, .int 0, .int 0, .int 0, .int (-1), .int (-1), .ref (b 11), .ref (b 12), .ref (b 13), .int 0, .int 0, .ref (b 16), .ref (b 17), .ref (b 18), .ref (b 19), .ref (b 20), .ref (b 21), .ref (b 22), .ref (b 23), .ref (b 24), .int 0, .ref (b 26), .ref (b 27), .ref (b 28), .ref (b 29), .ref (b 30), .ref (b 31), .ref (b 32), .int 0, .int 0, .ref (b 35), .ref (b 36), .ref (b 37), .ref (b 38), .ref (b 39), .ref (b 40), .int 0, .ref (b 42), .ref (b 43), .ref (b 44), .int 0, .ref (b 46), .ref (b 47), .int 0, .ref (b 49)]))] H := hP
  have hD : va_D (fun q : Nat => s.heap.size ≤ q) [(a 0, .inr (7, [.ref (a 1), .ref (a 10), .ref (a 23), .ref (a 24), .ref (a 26), .ref (a 29), .ref (a 34), .ref (a 43), .int 0, .int 0, .int 0, .int 0])), (b 0, .inr (8, [.ref (b 1), .int 0, .int 0, .int 0, .int 0, .int 0, .int 0, .int 0, .int (-1), .int (-1), .ref (b 11), .ref (b 12), .ref (b 13), .int 0, .int 0, .ref (b 16), .ref (b 17), .ref (b 18), .ref (b 19), .ref (b 20), .ref (b 21), .ref (b 22), .ref (b 23), .ref (b 24), .int 0, .ref (b 26), .ref (b 27), .ref (b 28), .ref (b 29), .ref (b 30), .ref (b 31), .ref (b 32), .int 0, .int 0, .ref (b 35), .ref (b 36), .ref (b 37), .ref (b 38), .ref (b 39), .ref (b 40), .int 0, .ref (b 42), .ref (b 43), .ref (b 44), .int 0, .ref (b 46), .ref (b 47), .int 0, .ref (b 49)]))] := hD
  refine lv_aload_n hx hb dL_law_214 rfl (lv_at hl 1 rfl) ?_
  refine lv_aload_n hx hb dL_law_215 rfl (lv_at hl 3 rfl) ?_
  refine lv_iload_n hx hb dL_law_216 rfl (lv_at hl 0 rfl) ?_
  refine lv_iconst (v := 1) hx hb dL_law_217 (by decide) ?_
  refine lv_iadd hx hb dL_law_218 ?_
  refine zz_seti 1 (by decide) ?_
  refine va_sld hx hb hX hbl hbA hS (by rw [hL6]; exact zz_vin (by decide)) dL_law_219 ?_
  refine lv_aload_n hx hb dL_law_220 rfl (lv_at hl 3 rfl) ?_
  refine lv_iload_n hx hb dL_law_221 rfl (lv_at hl 0 rfl) ?_
  refine lv_iconst (v := 2) hx hb dL_law_222 (by decide) ?_
  refine lv_iadd hx hb dL_law_223 ?_
  refine zz_seti 2 (by decide) ?_
  refine va_sld hx hb hX hbl hbA hS (by rw [hL6]; exact zz_vin (by decide)) dL_law_224 ?_
  refine lv_aload_n hx hb dL_law_225 rfl (lv_at hl 3 rfl) ?_
  refine lv_iload_n hx hb dL_law_226 rfl (lv_at hl 0 rfl) ?_
  refine lv_iconst (v := 3) hx hb dL_law_227 (by decide) ?_
  refine lv_iadd hx hb dL_law_228 ?_
  refine zz_seti 3 (by decide) ?_
  refine va_sld hx hb hX hbl hbA hS (by rw [hL6]; exact zz_vin (by decide)) dL_law_229 ?_
  refine lv_aload_n hx hb dL_law_230 rfl (lv_at hl 3 rfl) ?_
  refine lv_iload_n hx hb dL_law_231 rfl (lv_at hl 0 rfl) ?_
  refine lv_iconst (v := 4) hx hb dL_law_232 (by decide) ?_
  refine lv_iadd hx hb dL_law_233 ?_
  refine zz_seti 4 (by decide) ?_
  refine va_sld hx hb hX hbl hbA hS (by rw [hL6]; exact zz_vin (by decide)) dL_law_234 ?_
  refine lv_aload_n hx hb dL_law_235 rfl (lv_at hl 3 rfl) ?_
  refine lv_iload_n hx hb dL_law_236 rfl (lv_at hl 0 rfl) ?_
  refine lv_iconst (v := 5) hx hb dL_law_237 (by decide) ?_
  refine lv_iadd hx hb dL_law_238 ?_
  refine zz_seti 5 (by decide) ?_
  refine va_sld hx hb hX hbl hbA hS (by rw [hL6]; exact zz_vin (by decide)) dL_law_239 ?_
  have hPc := hP.sub (ws' := [(b 0, .inr (8, [.ref (b 1), .int 0, .int 0, .int 0, .int 0, .int 0, .int 0, .int 0, .int (-1), .int (-1), .ref (b 11), .ref (b 12), .ref (b 13), .int 0, .int 0, .ref (b 16), .ref (b 17), .ref (b 18), .ref (b 19), .ref (b 20), .ref (b 21), .ref (b 22), .ref (b 23), .ref (b 24), .int 0, .ref (b 26), .ref (b 27), .ref (b 28), .ref (b 29), .ref (b 30), .ref (b 31), .ref (b 32), .int 0, .int 0, .ref (b 35), .ref (b 36), .ref (b 37), .ref (b 38), .ref (b 39), .ref (b 40), .int 0, .ref (b 42), .ref (b 43), .ref (b 44), .int 0, .ref (b 46), .ref (b 47), .int 0, .ref (b 49)]))]) [1] rfl
  have hDc := hD.sub (ws' := [(b 0, .inr (8, [.ref (b 1), .int 0, .int 0, .int 0, .int 0, .int 0, .int 0, .int 0, .int (-1), .int (-1), .ref (b 11), .ref (b 12), .ref (b 13), .int 0, .int 0, .ref (b 16), .ref (b 17), .ref (b 18), .ref (b 19), .ref (b 20), .ref (b 21), .ref (b 22), .ref (b 23), .ref (b 24), .int 0, .ref (b 26), .ref (b 27), .ref (b 28), .ref (b 29), .ref (b 30), .ref (b 31), .ref (b 32), .int 0, .int 0, .ref (b 35), .ref (b 36), .ref (b 37), .ref (b 38), .ref (b 39), .ref (b 40), .int 0, .ref (b 42), .ref (b 43), .ref (b 44), .int 0, .ref (b 46), .ref (b 47), .int 0, .ref (b 49)]))]) [1] (by decide) rfl
  have hKc := hK.sub (tys' := []) [] rfl
  have hFc := zz_free0 hS hA
  refine va_calli (va_runV (As := [.int (xs (Int32.toNatClampNeg 1)), .int (xs (Int32.toNatClampNeg 2)), .int (xs (Int32.toNatClampNeg 3)), .int (xs (Int32.toNatClampNeg 4)), .int (xs (Int32.toNatClampNeg 5))]) (rest := [.int r_1]) ⟨hx, hb, hml, hown, hw⟩ (m_field l dC dI b (xs (Int32.toNatClampNeg 1)) (xs (Int32.toNatClampNeg 2)) (xs (Int32.toNatClampNeg 3)) (xs (Int32.toNatClampNeg 4)) (xs (Int32.toNatClampNeg 5)) H.size) ⟨callB_of 5 hw (zz_good tw_272) rfl rfl rfl (hw _ tw_95) (hw _ tw_273) (by decide +kernel) ⟨Nat.le_of_ble_eq_true rfl, Nat.le_of_ble_eq_true rfl⟩, (hw _ tw_274), (hw _ tw_275)⟩ ⟨zz_blind, va_recv hKc hPc (ci := 8) (q0 := 0) rfl rfl, zz_pre hPc hKc hDc hN⟩ rfl rfl hl.1 rfl (lv_room (Nat.le_of_ble_eq_true rfl)) dL_law_240 ⟨Nat.le_of_ble_eq_true rfl, Nat.le_of_ble_eq_true rfl⟩) hS (fun q _ h => hFc q h) hFc (fun r_2 u_2 t H1 locs ht hvm e_2 hB hz1 hk1 hS => ?_)
  try dsimp only at e_2
  have hP := zz_keep hP hk1
  clear hk1 hB ht hvm
  generalize H1 = H at hP hS ⊢
  have hP : va_P (dC, dI) vwCl [(a 0, .inr (7, [.ref (a 1), .ref (a 10), .ref (a 23), .ref (a 24), .ref (a 26), .ref (a 29), .ref (a 34), .ref (a 43), .int 0, .int 0, .int 0, .int 0])), (b 0, .inr (8, [.ref (b 1), .int 0, .int 0, .int 0, .int 0, .int 0, .int 0, .int 0, .int (-1), .int (-1), .ref (b 11), .ref (b 12), .ref (b 13), .int 0, .int 0, .ref (b 16), .ref (b 17), .ref (b 18), .ref (b 19), .ref (b 20), .ref (b 21), .ref (b 22), .ref (b 23), .ref (b 24), .int 0, .ref (b 26), .ref (b 27), .ref (b 28), .ref (b 29), .ref (b 30), .ref (b 31), .ref (b 32), .int 0, .int 0, .ref (b 35), .ref (b 36), .ref (b 37), .ref (b 38), .ref (b 39), .ref (b 40), .int 0, .ref (b 42), .ref (b 43), .ref (b 44), .int 0, .ref (b 46), .ref (b 47), .int 0, .ref (b 49)]))] H := hP
  have hD : va_D (fun q : Nat => s.heap.size ≤ q) [(a 0, .inr (7, [.ref (a 1), .ref (a 10), .ref (a 23), .ref (a 24), .ref (a 26), .ref (a 29), .ref (a 34), .ref (a 43), .int 0, .int 0, .int 0, .int 0])), (b 0, .inr (8, [.ref (b 1), .int 0, .int 0, .int 0, .int 0, .int 0, .int 0, .int 0, .int (-1), .int (-1), .ref (b 11), .ref (b 12), .ref (b 13), .int 0, .int 0, .ref (b 16), .ref (b 17), .ref (b 18), .ref (b 19), .ref (b 20), .ref (b 21), .ref (b 22), .ref (b 23), .ref (b 24), .int 0, .ref (b 26), .ref (b 27), .ref (b 28), .ref (b 29), .ref (b 30), .ref (b 31), .ref (b 32), .int 0, .int 0, .ref (b 35), .ref (b 36), .ref (b 37), .ref (b 38), .ref (b 39), .ref (b 40), .int 0, .ref (b 42), .ref (b 43), .ref (b 44), .int 0, .ref (b 46), .ref (b 47), .int 0, .ref (b 49)]))] := hD
  refine lv_icmp_eq (tgt := 818) hx hb dL_law_243 (by decide) (fun _ => ?_) (fun c_3 => absurd c_3 (fun z9 => z9 (e_1.trans e_2.symm)))
  exact law_end l hL6 C0 hS (lv_sub hl [0, 3] rfl) (by decide) (by decide)


set_option maxHeartbeats 4000000 in
set_option maxRecDepth 100000 in
theorem lc_loss {p : Program} {e : Env} {s : State} {m : MethodId} {below : List Frame} {meth : Method} {c : Code} (l : Launch) {sb L : Nat} {xs : Nat → Int32} (hL6 : L = 6) (C0 : lw_At p s m meth c sb L xs) {dC : Nat → ClassId} {dI : Nat → Nat → Nat} (hN : zz_N s) (a : Nat → Nat) (cI : ClassId) (b : Nat → Nat) {H : Heap} {locs : List Loc} {ls : Array Slot} (hK : va_K (dC, dI) vwCl [(cI, .int)] s) (hP : va_P (dC, dI) vwCl [(a 0, .inr (7, [.ref (a 1), .ref (a 10), .ref (a 23), .ref (a 24), .ref (a 26), .ref (a 29), .ref (a 34), .ref (a 43), .int 0, .int 0, .int 0, .int 0])), (a 23, .inl (cI, 10, .inl (fun _ => (0 : Int32)))), (b 0, .inr (8, [.ref (b 1), .int 0, .int 0, .int 0, .int 0, .int 0, .int 0, .int 0, .int (-1), .int (-1), .ref (b 11), .ref (b 12), .ref (b 13), .int 0, .int 0, .ref (b 16), .ref (b 17), .ref (b 18), .ref (b 19), .ref (b 20), .ref (b 21), .ref (b 22), .ref (b 23), .ref (b 24), .int 0, .ref (b 26), .ref (b 27), .ref (b 28), .ref (b 29), .ref (b 30), .ref (b 31), .ref (b 32), .int 0, .int 0, .ref (b 35), .ref (b 36), .ref (b 37), .ref (b 38), .ref (b 39), .ref (b 40), .int 0, .ref (b 42), .ref (b 43), .ref (b 44), .int 0, .ref (b 46), .ref (b 47), .int 0, .ref (b 49)])), (b 24, .inl (cI, 10, .inl (fun _ => (0 : Int32))))] H) (hD : va_D (fun q : Nat => s.heap.size ≤ q) [(a 0, .inr (7, [.ref (a 1), .ref (a 10), .ref (a 23), .ref (a 24), .ref (a 26), .ref (a 29), .ref (a 34), .ref (a 43), .int 0, .int 0, .int 0, .int 0])), (a 23, .inl (cI, 10, .inl (fun _ => (0 : Int32)))), (b 0, .inr (8, [.ref (b 1), .int 0, .int 0, .int 0, .int 0, .int 0, .int 0, .int 0, .int (-1), .int (-1), .ref (b 11), .ref (b 12), .ref (b 13), .int 0, .int 0, .ref (b 16), .ref (b 17), .ref (b 18), .ref (b 19), .ref (b 20), .ref (b 21), .ref (b 22), .ref (b 23), .ref (b 24), .int 0, .ref (b 26), .ref (b 27), .ref (b 28), .ref (b 29), .ref (b 30), .ref (b 31), .ref (b 32), .int 0, .int 0, .ref (b 35), .ref (b 36), .ref (b 37), .ref (b 38), .ref (b 39), .ref (b 40), .int 0, .ref (b 42), .ref (b 43), .ref (b 44), .int 0, .ref (b 46), .ref (b 47), .int 0, .ref (b 49)])), (b 24, .inl (cI, 10, .inl (fun _ => (0 : Int32))))]) (hS : va_S (fun q : Nat => s.heap.size ≤ q) s.heap H locs) (hl : lv_has ls 4 [(3, .int 0), (2, .ref (b 0)), (1, .ref (a 0)), (0, .ref sb)]) : W p l e room_1 s m #[Value.ref sb] below meth c H locs 85 4448 (lw_Z below #[Value.ref sb] s) (F0 m 248 ls []) := by
  obtain ⟨hx, hb, hr, hml, hown, hts, hX, hbl, hlocks, hgv⟩ := id C0
  have hw : ∀ w ∈ zz_all, w.before #[Value.ref sb] s = true := fun w h => hts w (zz_in_tbl h)
  have hown : s.vm.findClass RL = some m.cls := hown
  have hA : ∀ q : Nat, s.heap.size ≤ q → (fun q : Nat => s.heap.size ≤ q) q := fun _ h => h
  have hbA : ¬ (fun q : Nat => s.heap.size ≤ q) sb := Nat.not_le.mpr hbl
  refine lv_aload_n hx hb dL_law_248 rfl (lv_at hl 2 rfl) ?_
  refine lv_aload_n hx hb dL_law_249 rfl (lv_at hl 3 rfl) ?_
  refine lv_iload_n hx hb dL_law_250 rfl (lv_at hl 0 rfl) ?_
  refine lv_iconst (v := 1) hx hb dL_law_251 (by decide) ?_
  refine lv_iadd hx hb dL_law_252 ?_
  refine zz_seti 1 (by decide) ?_
  refine va_sld hx hb hX hbl hbA hS (by rw [hL6]; exact zz_vin (by decide)) dL_law_253 ?_
  refine lv_aload_n hx hb dL_law_254 rfl (lv_at hl 3 rfl) ?_
  refine lv_iload_n hx hb dL_law_255 rfl (lv_at hl 0 rfl) ?_
  refine lv_iconst (v := 2) hx hb dL_law_256 (by decide) ?_
  refine lv_iadd hx hb dL_law_257 ?_
  refine zz_seti 2 (by decide) ?_
  refine va_sld hx hb hX hbl hbA hS (by rw [hL6]; exact zz_vin (by decide)) dL_law_258 ?_
  have hPc := hP.sub (ws' := [(a 0, .inr (7, [.ref (a 1), .ref (a 10), .ref (a 23), .ref (a 24), .ref (a 26), .ref (a 29), .ref (a 34), .ref (a 43), .int 0, .int 0, .int 0, .int 0])), (a 23, .inl (cI, 10, .inl (fun _ => (0 : Int32))))]) [0, 1] rfl
  have hDc := hD.sub (ws' := [(a 0, .inr (7, [.ref (a 1), .ref (a 10), .ref (a 23), .ref (a 24), .ref (a 26), .ref (a 29), .ref (a 34), .ref (a 43), .int 0, .int 0, .int 0, .int 0])), (a 23, .inl (cI, 10, .inl (fun _ => (0 : Int32))))]) [0, 1] (by decide) rfl
  have hKc := hK.sub (tys' := [(cI, .int)]) [0] rfl
  have hFc := va_free (wc := [(a 0, .inr (7, [.ref (a 1), .ref (a 10), .ref (a 23), .ref (a 24), .ref (a 26), .ref (a 29), .ref (a 34), .ref (a 43), .int 0, .int 0, .int 0, .int 0])), (a 23, .inl (cI, 10, .inl (fun _ => (0 : Int32))))]) hD hS hA [0, 1] rfl
  refine va_calli (va_runV (As := [.int (xs (Int32.toNatClampNeg 1)), .int (xs (Int32.toNatClampNeg 2))]) (rest := []) ⟨hx, hb, hml, hown, hw⟩ (k_loss l dC dI a cI (xs (Int32.toNatClampNeg 1)) (xs (Int32.toNatClampNeg 2)) H.size) ⟨callB_of 2 hw (zz_good tw_276) rfl rfl rfl (hw _ tw_2) (hw _ tw_277) (by decide +kernel) ⟨Nat.le_of_ble_eq_true rfl, Nat.le_of_ble_eq_true rfl⟩, (hw _ tw_278), (hw _ tw_279)⟩ ⟨zz_blind, va_recv hKc hPc (ci := 7) (q0 := 0) rfl rfl, zz_pre hPc hKc hDc hN⟩ rfl rfl hl.1 rfl (lv_room (Nat.le_of_ble_eq_true rfl)) dL_law_259 ⟨Nat.le_of_ble_eq_true rfl, Nat.le_of_ble_eq_true rfl⟩) hS (fun q _ h => hFc q h) hFc (fun r_1 u_1 t H1 locs ht hvm e_1 hB hz1 hk1 hS => ?_)
  try dsimp only at e_1
  have hP1 : va_P (dC, dI) vwCl [] H1 := zz_P0
  have hD1 : va_D (va_A [(a 0, .inr (7, [.ref (a 1), .ref (a 10), .ref (a 23), .ref (a 24), .ref (a 26), .ref (a 29), .ref (a 34), .ref (a 43), .int 0, .int 0, .int 0, .int 0])), (a 23, .inl (cI, 10, .inl (fun _ => (0 : Int32))))] H.size) [] := zz_D0
  obtain ⟨hP, hD⟩ := va_join (wr := [(b 0, .inr (8, [.ref (b 1), .int 0, .int 0, .int 0, .int 0, .int 0, .int 0, .int 0, .int (-1), .int (-1), .ref (b 11), .ref (b 12), .ref (b 13), .int 0, .int 0, .ref (b 16), .ref (b 17), .ref (b 18), .ref (b 19), .ref (b 20), .ref (b 21), .ref (b 22), .ref (b 23), .ref (b 24), .int 0, .ref (b 26), .ref (b 27), .ref (b 28), .ref (b 29), .ref (b 30), .ref (b 31), .ref (b 32), .int 0, .int 0, .ref (b 35), .ref (b 36), .ref (b 37), .ref (b 38), .ref (b 39), .ref (b 40), .int 0, .ref (b 42), .ref (b 43), .ref (b 44), .int 0, .ref (b 46), .ref (b 47), .int 0, .ref (b 49)])), (b 24, .inl (cI, 10, .inl (fun _ => (0 : Int32))))]) (w1 := []) hP hD [0, 1] [2, 3] rfl rfl (by decide) (by decide) hk1 hFc hP1 hD1
  clear hk1 ht hvm
  generalize H1 = H at hP hS ⊢
  have hP : va_P (dC, dI) vwCl [(b 0, .inr (8, [.ref (b 1), .int 0, .int 0, .int 0, .int 0, .int 0, .int 0, .int 0, .int (-1), .int (-1), .ref (b 11), .ref (b 12), .ref (b 13), .int 0, .int 0, .ref (b 16), .ref (b 17), .ref (b 18), .ref (b 19), .ref (b 20), .ref (b 21), .ref (b 22), .ref (b 23), .ref (b 24), .int 0, .ref (b 26), .ref (b 27), .ref (b 28), .ref (b 29), .ref (b 30), .ref (b 31), .ref (b 32), .int 0, .int 0, .ref (b 35), .ref (b 36), .ref (b 37), .ref (b 38), .ref (b 39), .ref (b 40), .int 0, .ref (b 42), .ref (b 43), .ref (b 44), .int 0, .ref (b 46), .ref (b 47), .int 0, .ref (b 49)])), (b 24, .inl (cI, 10, .inl (fun _ => (0 : Int32))))] H := hP
  have hD : va_D (fun q : Nat => s.heap.size ≤ q) [(b 0, .inr (8, [.ref (b 1), .int 0, .int 0, .int 0, .int 0, .int 0, .int 0, .int 0, .int (-1), .int (-1), .ref (b 11), .ref (b 12), .ref (b 13), .int 0, .int 0, .ref (b 16), .ref (b 17), .ref (b 18), .ref (b 19), .ref (b 20), .ref (b 21), .ref (b 22), .ref (b 23), .ref (b 24), .int 0, .ref (b 26), .ref (b 27), .ref (b 28), .ref (b 29), .ref (b 30), .ref (b 31), .ref (b 32), .int 0, .int 0, .ref (b 35), .ref (b 36), .ref (b 37), .ref (b 38), .ref (b 39), .ref (b 40), .int 0, .ref (b 42), .ref (b 43), .ref (b 44), .int 0, .ref (b 46), .ref (b 47), .int 0, .ref (b 49)])), (b 24, .inl (cI, 10, .inl (fun _ => (0 : Int32))))] := hD
  refine lv_aload_n hx hb dL_law_262 rfl (lv_at hl 1 rfl) ?_
  refine lv_aload_n hx hb dL_law_263 rfl (lv_at hl 3 rfl) ?_
  refine lv_iload_n hx hb dL_law_264 rfl (lv_at hl 0 rfl) ?_
  refine lv_iconst (v := 1) hx hb dL_law_265 (by decide) ?_
  refine lv_iadd hx hb dL_law_266 ?_
  refine zz_seti 1 (by decide) ?_
  refine va_sld hx hb hX hbl hbA hS (by rw [hL6]; exact zz_vin (by decide)) dL_law_267 ?_
  refine lv_aload_n hx hb dL_law_268 rfl (lv_at hl 3 rfl) ?_
  refine lv_iload_n hx hb dL_law_269 rfl (lv_at hl 0 rfl) ?_
  refine lv_iconst (v := 2) hx hb dL_law_270 (by decide) ?_
  refine lv_iadd hx hb dL_law_271 ?_
  refine zz_seti 2 (by decide) ?_
  refine va_sld hx hb hX hbl hbA hS (by rw [hL6]; exact zz_vin (by decide)) dL_law_272 ?_
  have hPc := hP.sub (ws' := [(b 0, .inr (8, [.ref (b 1), .int 0, .int 0, .int 0, .int 0, .int 0, .int 0, .int 0, .int (-1), .int (-1), .ref (b 11), .ref (b 12), .ref (b 13), .int 0, .int 0, .ref (b 16), .ref (b 17), .ref (b 18), .ref (b 19), .ref (b 20), .ref (b 21), .ref (b 22), .ref (b 23), .ref (b 24), .int 0, .ref (b 26), .ref (b 27), .ref (b 28), .ref (b 29), .ref (b 30), .ref (b 31), .ref (b 32), .int 0, .int 0, .ref (b 35), .ref (b 36), .ref (b 37), .ref (b 38), .ref (b 39), .ref (b 40), .int 0, .ref (b 42), .ref (b 43), .ref (b 44), .int 0, .ref (b 46), .ref (b 47), .int 0, .ref (b 49)])), (b 24, .inl (cI, 10, .inl (fun _ => (0 : Int32))))]) [0, 1] rfl
  have hDc := hD.sub (ws' := [(b 0, .inr (8, [.ref (b 1), .int 0, .int 0, .int 0, .int 0, .int 0, .int 0, .int 0, .int (-1), .int (-1), .ref (b 11), .ref (b 12), .ref (b 13), .int 0, .int 0, .ref (b 16), .ref (b 17), .ref (b 18), .ref (b 19), .ref (b 20), .ref (b 21), .ref (b 22), .ref (b 23), .ref (b 24), .int 0, .ref (b 26), .ref (b 27), .ref (b 28), .ref (b 29), .ref (b 30), .ref (b 31), .ref (b 32), .int 0, .int 0, .ref (b 35), .ref (b 36), .ref (b 37), .ref (b 38), .ref (b 39), .ref (b 40), .int 0, .ref (b 42), .ref (b 43), .ref (b 44), .int 0, .ref (b 46), .ref (b 47), .int 0, .ref (b 49)])), (b 24, .inl (cI, 10, .inl (fun _ => (0 : Int32))))]) [0, 1] (by decide) rfl
  have hKc := hK.sub (tys' := [(cI, .int)]) [0] rfl
  have hFc := va_free (wc := [(b 0, .inr (8, [.ref (b 1), .int 0, .int 0, .int 0, .int 0, .int 0, .int 0, .int 0, .int (-1), .int (-1), .ref (b 11), .ref (b 12), .ref (b 13), .int 0, .int 0, .ref (b 16), .ref (b 17), .ref (b 18), .ref (b 19), .ref (b 20), .ref (b 21), .ref (b 22), .ref (b 23), .ref (b 24), .int 0, .ref (b 26), .ref (b 27), .ref (b 28), .ref (b 29), .ref (b 30), .ref (b 31), .ref (b 32), .int 0, .int 0, .ref (b 35), .ref (b 36), .ref (b 37), .ref (b 38), .ref (b 39), .ref (b 40), .int 0, .ref (b 42), .ref (b 43), .ref (b 44), .int 0, .ref (b 46), .ref (b 47), .int 0, .ref (b 49)])), (b 24, .inl (cI, 10, .inl (fun _ => (0 : Int32))))]) hD hS hA [0, 1] rfl
  refine va_calli (va_runV (As := [.int (xs (Int32.toNatClampNeg 1)), .int (xs (Int32.toNatClampNeg 2))]) (rest := [.int r_1]) ⟨hx, hb, hml, hown, hw⟩ (m_loss l dC dI b cI (xs (Int32.toNatClampNeg 1)) (xs (Int32.toNatClampNeg 2)) H.size) ⟨callB_of 2 hw (zz_good tw_280) rfl rfl rfl (hw _ tw_95) (hw _ tw_281) (by decide +kernel) ⟨Nat.le_of_ble_eq_true rfl, Nat.le_of_ble_eq_true rfl⟩, (hw _ tw_282), (hw _ tw_283)⟩ ⟨zz_blind, va_recv hKc hPc (ci := 8) (q0 := 0) rfl rfl, zz_pre hPc hKc hDc hN⟩ rfl rfl hl.1 rfl (lv_room (Nat.le_of_ble_eq_true rfl)) dL_law_273 ⟨Nat.le_of_ble_eq_true rfl, Nat.le_of_ble_eq_true rfl⟩) hS (fun q _ h => hFc q h) hFc (fun r_2 u_2 t H1 locs ht hvm e_2 hB hz1 hk1 hS => ?_)
  try dsimp only at e_2
  have hP1 : va_P (dC, dI) vwCl [] H1 := zz_P0
  have hD1 : va_D (va_A [(b 0, .inr (8, [.ref (b 1), .int 0, .int 0, .int 0, .int 0, .int 0, .int 0, .int 0, .int (-1), .int (-1), .ref (b 11), .ref (b 12), .ref (b 13), .int 0, .int 0, .ref (b 16), .ref (b 17), .ref (b 18), .ref (b 19), .ref (b 20), .ref (b 21), .ref (b 22), .ref (b 23), .ref (b 24), .int 0, .ref (b 26), .ref (b 27), .ref (b 28), .ref (b 29), .ref (b 30), .ref (b 31), .ref (b 32), .int 0, .int 0, .ref (b 35), .ref (b 36), .ref (b 37), .ref (b 38), .ref (b 39), .ref (b 40), .int 0, .ref (b 42), .ref (b 43), .ref (b 44), .int 0, .ref (b 46), .ref (b 47), .int 0, .ref (b 49)])), (b 24, .inl (cI, 10, .inl (fun _ => (0 : Int32))))] H.size) [] := zz_D0
  obtain ⟨hP, hD⟩ := va_join (wr := []) (w1 := []) hP hD [0, 1] [] rfl rfl (by decide) (by decide) hk1 hFc hP1 hD1
  clear hk1 ht hvm
  generalize H1 = H at hP hS ⊢
  have hP : va_P (dC, dI) vwCl [] H := hP
  have hD : va_D (fun q : Nat => s.heap.size ≤ q) [] := hD
  refine lv_icmp_eq (tgt := 818) hx hb dL_law_276 (by decide) (fun _ => ?_) (fun c_3 => absurd c_3 (fun z9 => z9 (e_1.trans e_2.symm)))
  exact law_end l hL6 C0 hS (lv_sub hl [0, 3] rfl) (by decide) (by decide)


set_option maxHeartbeats 4000000 in
set_option maxRecDepth 100000 in
theorem lc_feed {p : Program} {e : Env} {s : State} {m : MethodId} {below : List Frame} {meth : Method} {c : Code} (l : Launch) {sb L : Nat} {xs : Nat → Int32} (hL6 : L = 6) (C0 : lw_At p s m meth c sb L xs) {dC : Nat → ClassId} {dI : Nat → Nat → Nat} (hN : zz_N s) (a : Nat → Nat) (cI : ClassId) (b : Nat → Nat) (cB : ClassId) {H : Heap} {locs : List Loc} {ls : Array Slot} (hK : va_K (dC, dI) vwCl [(cI, .int), (cB, .byte)] s) (hP : va_P (dC, dI) vwCl [(a 0, .inr (7, [.ref (a 1), .ref (a 10), .ref (a 23), .ref (a 24), .ref (a 26), .ref (a 29), .ref (a 34), .ref (a 43), .int 0, .int 0, .int 0, .int 0])), (a 24, .inr (6, [.ref (a 25), .int 0])), (a 25, .inl (cI, 200, .inl (fun _ => (0 : Int32)))), (b 0, .inr (8, [.ref (b 1), .int 0, .int 0, .int 0, .int 0, .int 0, .int 0, .int 0, .int (-1), .int (-1), .ref (b 11), .ref (b 12), .ref (b 13), .int 0, .int 0, .ref (b 16), .ref (b 17), .ref (b 18), .ref (b 19), .ref (b 20), .ref (b 21), .ref (b 22), .ref (b 23), .ref (b 24), .int 0, .ref (b 26), .ref (b 27), .ref (b 28), .ref (b 29), .ref (b 30), .ref (b 31), .ref (b 32), .int 0, .int 0, .ref (b 35), .ref (b 36), .ref (b 37), .ref (b 38), .ref (b 39), .ref (b 40), .int 0, .ref (b 42), .ref (b 43), .ref (b 44), .int 0, .ref (b 46), .ref (b 47), .int 0, .ref (b 49)])), (b 1, .inl (cB, 200, .inl (fun _ => (0 : Int32))))] H) (hD : va_D (fun q : Nat => s.heap.size ≤ q) [(a 0, .inr (7, [.ref (a 1), .ref (a 10), .ref (a 23), .ref (a 24), .ref (a 26), .ref (a 29), .ref (a 34), .ref (a 43), .int 0, .int 0, .int 0, .int 0])), (a 24, .inr (6, [.ref (a 25), .int 0])), (a 25, .inl (cI, 200, .inl (fun _ => (0 : Int32)))), (b 0, .inr (8, [.ref (b 1), .int 0, .int 0, .int 0, .int 0, .int 0, .int 0, .int 0, .int (-1), .int (-1), .ref (b 11), .ref (b 12), .ref (b 13), .int 0, .int 0, .ref (b 16), .ref (b 17), .ref (b 18), .ref (b 19), .ref (b 20), .ref (b 21), .ref (b 22), .ref (b 23), .ref (b 24), .int 0, .ref (b 26), .ref (b 27), .ref (b 28), .ref (b 29), .ref (b 30), .ref (b 31), .ref (b 32), .int 0, .int 0, .ref (b 35), .ref (b 36), .ref (b 37), .ref (b 38), .ref (b 39), .ref (b 40), .int 0, .ref (b 42), .ref (b 43), .ref (b 44), .int 0, .ref (b 46), .ref (b 47), .int 0, .ref (b 49)])), (b 1, .inl (cB, 200, .inl (fun _ => (0 : Int32))))]) (hS : va_S (fun q : Nat => s.heap.size ≤ q) s.heap H locs) (hl : lv_has ls 4 [(3, .int 0), (2, .ref (b 0)), (1, .ref (a 0)), (0, .ref sb)]) : W p l e room_1 s m #[Value.ref sb] below meth c H locs 85 4448 (lw_Z below #[Value.ref sb] s) (F0 m 281 ls []) := by
  obtain ⟨hx, hb, hr, hml, hown, hts, hX, hbl, hlocks, hgv⟩ := id C0
  have hw : ∀ w ∈ zz_all, w.before #[Value.ref sb] s = true := fun w h => hts w (zz_in_tbl h)
  have hown : s.vm.findClass RL = some m.cls := hown
  have hA : ∀ q : Nat, s.heap.size ≤ q → (fun q : Nat => s.heap.size ≤ q) q := fun _ h => h
  have hbA : ¬ (fun q : Nat => s.heap.size ≤ q) sb := Nat.not_le.mpr hbl
  refine lv_aload_n hx hb dL_law_281 rfl (lv_at hl 2 rfl) ?_
  refine lv_aload_n hx hb dL_law_282 rfl (lv_at hl 3 rfl) ?_
  refine lv_iload_n hx hb dL_law_283 rfl (lv_at hl 0 rfl) ?_
  refine lv_iconst (v := 1) hx hb dL_law_284 (by decide) ?_
  refine lv_iadd hx hb dL_law_285 ?_
  refine zz_seti 1 (by decide) ?_
  refine va_sld hx hb hX hbl hbA hS (by rw [hL6]; exact zz_vin (by decide)) dL_law_286 ?_
  refine lv_aload_n hx hb dL_law_287 rfl (lv_at hl 3 rfl) ?_
  refine lv_iload_n hx hb dL_law_288 rfl (lv_at hl 0 rfl) ?_
  refine lv_iconst (v := 2) hx hb dL_law_289 (by decide) ?_
  refine lv_iadd hx hb dL_law_290 ?_
  refine zz_seti 2 (by decide) ?_
  refine va_sld hx hb hX hbl hbA hS (by rw [hL6]; exact zz_vin (by decide)) dL_law_291 ?_
  refine lv_aload_n hx hb dL_law_292 rfl (lv_at hl 3 rfl) ?_
  refine lv_iload_n hx hb dL_law_293 rfl (lv_at hl 0 rfl) ?_
  refine lv_iconst (v := 3) hx hb dL_law_294 (by decide) ?_
  refine lv_iadd hx hb dL_law_295 ?_
  refine zz_seti 3 (by decide) ?_
  refine va_sld hx hb hX hbl hbA hS (by rw [hL6]; exact zz_vin (by decide)) dL_law_296 ?_
  refine lv_aload_n hx hb dL_law_297 rfl (lv_at hl 3 rfl) ?_
  refine lv_iload_n hx hb dL_law_298 rfl (lv_at hl 0 rfl) ?_
  refine lv_iconst (v := 4) hx hb dL_law_299 (by decide) ?_
  refine lv_iadd hx hb dL_law_300 ?_
  refine zz_seti 4 (by decide) ?_
  refine va_sld hx hb hX hbl hbA hS (by rw [hL6]; exact zz_vin (by decide)) dL_law_301 ?_
  refine lv_aload_n hx hb dL_law_302 rfl (lv_at hl 3 rfl) ?_
  refine lv_iload_n hx hb dL_law_303 rfl (lv_at hl 0 rfl) ?_
  refine lv_iconst (v := 5) hx hb dL_law_304 (by decide) ?_
  refine lv_iadd hx hb dL_law_305 ?_
  refine zz_seti 5 (by decide) ?_
  refine va_sld hx hb hX hbl hbA hS (by rw [hL6]; exact zz_vin (by decide)) dL_law_306 ?_
  have hPc := hP.sub (ws' := [(a 0, .inr (7, [.ref (a 1), .ref (a 10), .ref (a 23), .ref (a 24), .ref (a 26), .ref (a 29), .ref (a 34), .ref (a 43), .int 0, .int 0, .int 0, .int 0])), (a 24, .inr (6, [.ref (a 25), .int 0])), (a 25, .inl (cI, 200, .inl (fun _ => (0 : Int32))))]) [0, 1, 2] rfl
  have hDc := hD.sub (ws' := [(a 0, .inr (7, [.ref (a 1), .ref (a 10), .ref (a 23), .ref (a 24), .ref (a 26), .ref (a 29), .ref (a 34), .ref (a 43), .int 0, .int 0, .int 0, .int 0])), (a 24, .inr (6, [.ref (a 25), .int 0])), (a 25, .inl (cI, 200, .inl (fun _ => (0 : Int32))))]) [0, 1, 2] (by decide) rfl
  have hKc := hK.sub (tys' := [(cI, .int)]) [0] rfl
  have hFc := va_free (wc := [(a 0, .inr (7, [.ref (a 1), .ref (a 10), .ref (a 23), .ref (a 24), .ref (a 26), .ref (a 29), .ref (a 34), .ref (a 43), .int 0, .int 0, .int 0, .int 0])), (a 24, .inr (6, [.ref (a 25), .int 0])), (a 25, .inl (cI, 200, .inl (fun _ => (0 : Int32))))]) hD hS hA [0, 1, 2] rfl
  refine va_calli (va_runV (As := [.int (xs (Int32.toNatClampNeg 1)), .int (xs (Int32.toNatClampNeg 2)), .int (xs (Int32.toNatClampNeg 3)), .int (xs (Int32.toNatClampNeg 4)), .int (xs (Int32.toNatClampNeg 5))]) (rest := []) ⟨hx, hb, hml, hown, hw⟩ (k_feed l dC dI a cI (xs (Int32.toNatClampNeg 1)) (xs (Int32.toNatClampNeg 2)) (xs (Int32.toNatClampNeg 3)) (xs (Int32.toNatClampNeg 4)) (xs (Int32.toNatClampNeg 5)) H.size) ⟨callB_of 5 hw (zz_good tw_284) rfl rfl rfl (hw _ tw_2) (hw _ tw_285) (by decide +kernel) ⟨Nat.le_of_ble_eq_true rfl, Nat.le_of_ble_eq_true rfl⟩, (hw _ tw_286), (hw _ tw_287)⟩ ⟨zz_blind, va_recv hKc hPc (ci := 7) (q0 := 0) rfl rfl, zz_pre hPc hKc hDc hN⟩ rfl rfl hl.1 rfl (lv_room (Nat.le_of_ble_eq_true rfl)) dL_law_307 ⟨Nat.le_of_ble_eq_true rfl, Nat.le_of_ble_eq_true rfl⟩) hS (fun q _ h => hFc q h) hFc (fun r_1 u_1 t H1 locs ht hvm e_1 hB hz1 hk1 hS => ?_)
  try dsimp only at e_1
  have hP1 : va_P (dC, dI) vwCl [] H1 := zz_P0
  have hD1 : va_D (va_A [(a 0, .inr (7, [.ref (a 1), .ref (a 10), .ref (a 23), .ref (a 24), .ref (a 26), .ref (a 29), .ref (a 34), .ref (a 43), .int 0, .int 0, .int 0, .int 0])), (a 24, .inr (6, [.ref (a 25), .int 0])), (a 25, .inl (cI, 200, .inl (fun _ => (0 : Int32))))] H.size) [] := zz_D0
  obtain ⟨hP, hD⟩ := va_join (wr := [(b 0, .inr (8, [.ref (b 1), .int 0, .int 0, .int 0, .int 0, .int 0, .int 0, .int 0, .int (-1), .int (-1), .ref (b 11), .ref (b 12), .ref (b 13), .int 0, .int 0, .ref (b 16), .ref (b 17), .ref (b 18), .ref (b 19), .ref (b 20), .ref (b 21), .ref (b 22), .ref (b 23), .ref (b 24), .int 0, .ref (b 26), .ref (b 27), .ref (b 28), .ref (b 29), .ref (b 30), .ref (b 31), .ref (b 32), .int 0, .int 0, .ref (b 35), .ref (b 36), .ref (b 37), .ref (b 38), .ref (b 39), .ref (b 40), .int 0, .ref (b 42), .ref (b 43), .ref (b 44), .int 0, .ref (b 46), .ref (b 47), .int 0, .ref (b 49)])), (b 1, .inl (cB, 200, .inl (fun _ => (0 : Int32))))]) (w1 := []) hP hD [0, 1, 2] [3, 4] rfl rfl (by decide) (by decide) hk1 hFc hP1 hD1
  clear hk1 ht hvm
  generalize H1 = H at hP hS ⊢
  have hP : va_P (dC, dI) vwCl [(b 0, .inr (8, [.ref (b 1), .int 0, .int 0, .int 0, .int 0, .int 0, .int 0, .int 0, .int (-1), .int (-1), .ref (b 11), .ref (b 12), .ref (b 13), .int 0, .int 0, .ref (b 16), .ref (b 17), .ref (b 18), .ref (b 19), .ref (b 20), .ref (b 21), .ref (b 22), .ref (b 23), .ref (b 24), .int 0, .ref (b 26), .ref (b 27), .ref (b 28), .ref (b 29), .ref (b 30), .ref (b 31), .ref (b 32), .int 0, .int 0, .ref (b 35), .ref (b 36), .ref (b 37), .ref (b 38), .ref (b 39), .ref (b 40), .int 0, .ref (b 42), .ref (b 43), .ref (b 44), .int 0, .ref (b 46), .ref (b 47), .int 0, .ref (b 49)])), (b 1, .inl (cB, 200, .inl (fun _ => (0 : Int32))))] H := hP
  have hD : va_D (fun q : Nat => s.heap.size ≤ q) [(b 0, .inr (8, [.ref (b 1), .int 0, .int 0, .int 0, .int 0, .int 0, .int 0, .int 0, .int (-1), .int (-1), .ref (b 11), .ref (b 12), .ref (b 13), .int 0, .int 0, .ref (b 16), .ref (b 17), .ref (b 18), .ref (b 19), .ref (b 20), .ref (b 21), .ref (b 22), .ref (b 23), .ref (b 24), .int 0, .ref (b 26), .ref (b 27), .ref (b 28), .ref (b 29), .ref (b 30), .ref (b 31), .ref (b 32), .int 0, .int 0, .ref (b 35), .ref (b 36), .ref (b 37), .ref (b 38), .ref (b 39), .ref (b 40), .int 0, .ref (b 42), .ref (b 43), .ref (b 44), .int 0, .ref (b 46), .ref (b 47), .int 0, .ref (b 49)])), (b 1, .inl (cB, 200, .inl (fun _ => (0 : Int32))))] := hD
  refine lv_aload_n hx hb dL_law_310 rfl (lv_at hl 1 rfl) ?_
  refine lv_aload_n hx hb dL_law_311 rfl (lv_at hl 3 rfl) ?_
  refine lv_iload_n hx hb dL_law_312 rfl (lv_at hl 0 rfl) ?_
  refine lv_iconst (v := 1) hx hb dL_law_313 (by decide) ?_
  refine lv_iadd hx hb dL_law_314 ?_
  refine zz_seti 1 (by decide) ?_
  refine va_sld hx hb hX hbl hbA hS (by rw [hL6]; exact zz_vin (by decide)) dL_law_315 ?_
  refine lv_aload_n hx hb dL_law_316 rfl (lv_at hl 3 rfl) ?_
  refine lv_iload_n hx hb dL_law_317 rfl (lv_at hl 0 rfl) ?_
  refine lv_iconst (v := 2) hx hb dL_law_318 (by decide) ?_
  refine lv_iadd hx hb dL_law_319 ?_
  refine zz_seti 2 (by decide) ?_
  refine va_sld hx hb hX hbl hbA hS (by rw [hL6]; exact zz_vin (by decide)) dL_law_320 ?_
  refine lv_aload_n hx hb dL_law_321 rfl (lv_at hl 3 rfl) ?_
  refine lv_iload_n hx hb dL_law_322 rfl (lv_at hl 0 rfl) ?_
  refine lv_iconst (v := 3) hx hb dL_law_323 (by decide) ?_
  refine lv_iadd hx hb dL_law_324 ?_
  refine zz_seti 3 (by decide) ?_
  refine va_sld hx hb hX hbl hbA hS (by rw [hL6]; exact zz_vin (by decide)) dL_law_325 ?_
  refine lv_aload_n hx hb dL_law_326 rfl (lv_at hl 3 rfl) ?_
  refine lv_iload_n hx hb dL_law_327 rfl (lv_at hl 0 rfl) ?_
  refine lv_iconst (v := 4) hx hb dL_law_328 (by decide) ?_
  refine lv_iadd hx hb dL_law_329 ?_
  refine zz_seti 4 (by decide) ?_
  refine va_sld hx hb hX hbl hbA hS (by rw [hL6]; exact zz_vin (by decide)) dL_law_330 ?_
  refine lv_aload_n hx hb dL_law_331 rfl (lv_at hl 3 rfl) ?_
  refine lv_iload_n hx hb dL_law_332 rfl (lv_at hl 0 rfl) ?_
  refine lv_iconst (v := 5) hx hb dL_law_333 (by decide) ?_
  refine lv_iadd hx hb dL_law_334 ?_
  refine zz_seti 5 (by decide) ?_
  refine va_sld hx hb hX hbl hbA hS (by rw [hL6]; exact zz_vin (by decide)) dL_law_335 ?_
  have hPc := hP.sub (ws' := [(b 0, .inr (8, [.ref (b 1), .int 0, .int 0, .int 0, .int 0, .int 0, .int 0, .int 0, .int (-1), .int (-1), .ref (b 11), .ref (b 12), .ref (b 13), .int 0, .int 0, .ref (b 16), .ref (b 17), .ref (b 18), .ref (b 19), .ref (b 20), .ref (b 21), .ref (b 22), .ref (b 23), .ref (b 24), .int 0, .ref (b 26), .ref (b 27), .ref (b 28), .ref (b 29), .ref (b 30), .ref (b 31), .ref (b 32), .int 0, .int 0, .ref (b 35), .ref (b 36), .ref (b 37), .ref (b 38), .ref (b 39), .ref (b 40), .int 0, .ref (b 42), .ref (b 43), .ref (b 44), .int 0, .ref (b 46), .ref (b 47), .int 0, .ref (b 49)])), (b 1, .inl (cB, 200, .inl (fun _ => (0 : Int32))))]) [0, 1] rfl
  have hDc := hD.sub (ws' := [(b 0, .inr (8, [.ref (b 1), .int 0, .int 0, .int 0, .int 0, .int 0, .int 0, .int 0, .int (-1), .int (-1), .ref (b 11), .ref (b 12), .ref (b 13), .int 0, .int 0, .ref (b 16), .ref (b 17), .ref (b 18), .ref (b 19), .ref (b 20), .ref (b 21), .ref (b 22), .ref (b 23), .ref (b 24), .int 0, .ref (b 26), .ref (b 27), .ref (b 28), .ref (b 29), .ref (b 30), .ref (b 31), .ref (b 32), .int 0, .int 0, .ref (b 35), .ref (b 36), .ref (b 37), .ref (b 38), .ref (b 39), .ref (b 40), .int 0, .ref (b 42), .ref (b 43), .ref (b 44), .int 0, .ref (b 46), .ref (b 47), .int 0, .ref (b 49)])), (b 1, .inl (cB, 200, .inl (fun _ => (0 : Int32))))]) [0, 1] (by decide) rfl
  have hKc := hK.sub (tys' := [(cB, .byte)]) [1] rfl
  have hFc := va_free (wc := [(b 0, .inr (8, [.ref (b 1), .int 0, .int 0, .int 0, .int 0, .int 0, .int 0, .int 0, .int (-1), .int (-1), .ref (b 11), .ref (b 12), .ref (b 13), .int 0, .int 0, .ref (b 16), .ref (b 17), .ref (b 18), .ref (b 19), .ref (b 20), .ref (b 21), .ref (b 22), .ref (b 23), .ref (b 24), .int 0, .ref (b 26), .ref (b 27), .ref (b 28), .ref (b 29), .ref (b 30), .ref (b 31), .ref (b 32), .int 0, .int 0, .ref (b 35), .ref (b 36), .ref (b 37), .ref (b 38), .ref (b 39), .ref (b 40), .int 0, .ref (b 42), .ref (b 43), .ref (b 44), .int 0, .ref (b 46), .ref (b 47), .int 0, .ref (b 49)])), (b 1, .inl (cB, 200, .inl (fun _ => (0 : Int32))))]) hD hS hA [0, 1] rfl
  refine va_calli (va_runV (As := [.int (xs (Int32.toNatClampNeg 1)), .int (xs (Int32.toNatClampNeg 2)), .int (xs (Int32.toNatClampNeg 3)), .int (xs (Int32.toNatClampNeg 4)), .int (xs (Int32.toNatClampNeg 5))]) (rest := [.int r_1]) ⟨hx, hb, hml, hown, hw⟩ (m_feed l dC dI b cB (xs (Int32.toNatClampNeg 1)) (xs (Int32.toNatClampNeg 2)) (xs (Int32.toNatClampNeg 3)) (xs (Int32.toNatClampNeg 4)) (xs (Int32.toNatClampNeg 5)) H.size) ⟨callB_of 5 hw (zz_good tw_288) rfl rfl rfl (hw _ tw_95) (hw _ tw_289) (by decide +kernel) ⟨Nat.le_of_ble_eq_true rfl, Nat.le_of_ble_eq_true rfl⟩, (hw _ tw_290), (hw _ tw_291)⟩ ⟨zz_blind, va_recv hKc hPc (ci := 8) (q0 := 0) rfl rfl, zz_pre hPc hKc hDc hN⟩ rfl rfl hl.1 rfl (lv_room (Nat.le_of_ble_eq_true rfl)) dL_law_336 ⟨Nat.le_of_ble_eq_true rfl, Nat.le_of_ble_eq_true rfl⟩) hS (fun q _ h => hFc q h) hFc (fun r_2 u_2 t H1 locs ht hvm e_2 hB hz1 hk1 hS => ?_)
  try dsimp only at e_2
  have hP1 : va_P (dC, dI) vwCl [] H1 := zz_P0
  have hD1 : va_D (va_A [(b 0, .inr (8, [.ref (b 1), .int 0, .int 0, .int 0, .int 0, .int 0, .int 0, .int 0, .int (-1), .int (-1), .ref (b 11), .ref (b 12), .ref (b 13), .int 0, .int 0, .ref (b 16), .ref (b 17), .ref (b 18), .ref (b 19), .ref (b 20), .ref (b 21), .ref (b 22), .ref (b 23), .ref (b 24), .int 0, .ref (b 26), .ref (b 27), .ref (b 28), .ref (b 29), .ref (b 30), .ref (b 31), .ref (b 32), .int 0, .int 0, .ref (b 35), .ref (b 36), .ref (b 37), .ref (b 38), .ref (b 39), .ref (b 40), .int 0, .ref (b 42), .ref (b 43), .ref (b 44), .int 0, .ref (b 46), .ref (b 47), .int 0, .ref (b 49)])), (b 1, .inl (cB, 200, .inl (fun _ => (0 : Int32))))] H.size) [] := zz_D0
  obtain ⟨hP, hD⟩ := va_join (wr := []) (w1 := []) hP hD [0, 1] [] rfl rfl (by decide) (by decide) hk1 hFc hP1 hD1
  clear hk1 ht hvm
  generalize H1 = H at hP hS ⊢
  have hP : va_P (dC, dI) vwCl [] H := hP
  have hD : va_D (fun q : Nat => s.heap.size ≤ q) [] := hD
  refine lv_icmp_eq (tgt := 818) hx hb dL_law_339 (by decide) (fun _ => ?_) (fun c_3 => absurd c_3 (fun z9 => z9 (e_1.trans e_2.symm)))
  exact law_end l hL6 C0 hS (lv_sub hl [0, 3] rfl) (by decide) (by decide)


set_option maxHeartbeats 4000000 in
set_option maxRecDepth 100000 in
theorem lc_end {p : Program} {e : Env} {s : State} {m : MethodId} {below : List Frame} {meth : Method} {c : Code} (l : Launch) {sb L : Nat} {xs : Nat → Int32} (hL6 : L = 6) (C0 : lw_At p s m meth c sb L xs) {dC : Nat → ClassId} {dI : Nat → Nat → Nat} (hN : zz_N s) (a : Nat → Nat) (b : Nat → Nat) {H : Heap} {locs : List Loc} {ls : Array Slot} (hK : va_K (dC, dI) vwCl [] s) (hP : va_P (dC, dI) vwCl [(a 0, .inr (7, [.ref (a 1), .ref (a 10), .ref (a 23), .ref (a 24), .ref (a 26), .ref (a 29), .ref (a 34), .ref (a 43), .int 0, .int 0, .int 0, .int 0])), (a 24, .inr (6, [.ref (a 25), .int 0])), (b 0, .inr (8, [.ref (b 1), .int 0, .int 0, .int 0, .int 0, .int 0, .int 0, .int 0, .int (-1), .int (-1), .ref (b 11), .ref (b 12), .ref (b 13), .int 0, .int 0, .ref (b 16), .ref (b 17), .ref (b 18), .ref (b 19), .ref (b 20), .ref (b 21), .ref (b 22), .ref (b 23), .ref (b 24), .int 0, .ref (b 26), .ref (b 27), .ref (b 28), .ref (b 29), .ref (b 30), .ref (b 31), .ref (b 32), .int 0, .int 0, .ref (b 35), .ref (b 36), .ref (b 37), .ref (b 38), .ref (b 39), .ref (b 40), .int 0, .ref (b 42), .ref (b 43), .ref (b 44), .int 0, .ref (b 46), .ref (b 47), .int 0, .ref (b 49)]))] H) (hD : va_D (fun q : Nat => s.heap.size ≤ q) [(a 0, .inr (7, [.ref (a 1), .ref (a 10), .ref (a 23), .ref (a 24), .ref (a 26), .ref (a 29), .ref (a 34), .ref (a 43), .int 0, .int 0, .int 0, .int 0])), (a 24, .inr (6, [.ref (a 25), .int 0])), (b 0, .inr (8, [.ref (b 1), .int 0, .int 0, .int 0, .int 0, .int 0, .int 0, .int 0, .int (-1), .int (-1), .ref (b 11), .ref (b 12), .ref (b 13), .int 0, .int 0, .ref (b 16), .ref (b 17), .ref (b 18), .ref (b 19), .ref (b 20), .ref (b 21), .ref (b 22), .ref (b 23), .ref (b 24), .int 0, .ref (b 26), .ref (b 27), .ref (b 28), .ref (b 29), .ref (b 30), .ref (b 31), .ref (b 32), .int 0, .int 0, .ref (b 35), .ref (b 36), .ref (b 37), .ref (b 38), .ref (b 39), .ref (b 40), .int 0, .ref (b 42), .ref (b 43), .ref (b 44), .int 0, .ref (b 46), .ref (b 47), .int 0, .ref (b 49)]))]) (hS : va_S (fun q : Nat => s.heap.size ≤ q) s.heap H locs) (hl : lv_has ls 4 [(3, .int 0), (2, .ref (b 0)), (1, .ref (a 0)), (0, .ref sb)]) : W p l e room_1 s m #[Value.ref sb] below meth c H locs 85 4448 (lw_Z below #[Value.ref sb] s) (F0 m 344 ls []) := by
  obtain ⟨hx, hb, hr, hml, hown, hts, hX, hbl, hlocks, hgv⟩ := id C0
  have hw : ∀ w ∈ zz_all, w.before #[Value.ref sb] s = true := fun w h => hts w (zz_in_tbl h)
  have hown : s.vm.findClass RL = some m.cls := hown
  have hA : ∀ q : Nat, s.heap.size ≤ q → (fun q : Nat => s.heap.size ≤ q) q := fun _ h => h
  have hbA : ¬ (fun q : Nat => s.heap.size ≤ q) sb := Nat.not_le.mpr hbl
  refine lv_aload_n hx hb dL_law_344 rfl (lv_at hl 2 rfl) ?_
  refine lv_aload_n hx hb dL_law_345 rfl (lv_at hl 3 rfl) ?_
  refine lv_iload_n hx hb dL_law_346 rfl (lv_at hl 0 rfl) ?_
  refine lv_iconst (v := 1) hx hb dL_law_347 (by decide) ?_
  refine lv_iadd hx hb dL_law_348 ?_
  refine zz_seti 1 (by decide) ?_
  refine va_sld hx hb hX hbl hbA hS (by rw [hL6]; exact zz_vin (by decide)) dL_law_349 ?_
  have hPc := hP.sub (ws' := [(a 0, .inr (7, [.ref (a 1), .ref (a 10), .ref (a 23), .ref (a 24), .ref (a 26), .ref (a 29), .ref (a 34), .ref (a 43), .int 0, .int 0, .int 0, .int 0])), (a 24, .inr (6, [.ref (a 25), .int 0]))]) [0, 1] rfl
  have hDc := hD.sub (ws' := [(a 0, .inr (7, [.ref (a 1), .ref (a 10), .ref (a 23), .ref (a 24), .ref (a 26), .ref (a 29), .ref (a 34), .ref (a 43), .int 0, .int 0, .int 0, .int 0])), (a 24, .inr (6, [.ref (a 25), .int 0]))]) [0, 1] (by decide) rfl
  have hKc := hK.sub (tys' := []) [] rfl
  have hFc := va_free (wc := [(a 0, .inr (7, [.ref (a 1), .ref (a 10), .ref (a 23), .ref (a 24), .ref (a 26), .ref (a 29), .ref (a 34), .ref (a 43), .int 0, .int 0, .int 0, .int 0])), (a 24, .inr (6, [.ref (a 25), .int 0]))]) hD hS hA [0, 1] rfl
  refine va_calli (va_runV (As := [.int (xs (Int32.toNatClampNeg 1))]) (rest := []) ⟨hx, hb, hml, hown, hw⟩ (k_end l dC dI a (xs (Int32.toNatClampNeg 1)) H.size) ⟨callB_of 1 hw (zz_good tw_292) rfl rfl rfl (hw _ tw_2) (hw _ tw_293) (by decide +kernel) ⟨Nat.le_of_ble_eq_true rfl, Nat.le_of_ble_eq_true rfl⟩, (hw _ tw_294), (hw _ tw_295)⟩ ⟨zz_blind, va_recv hKc hPc (ci := 7) (q0 := 0) rfl rfl, zz_pre hPc hKc hDc hN⟩ rfl rfl hl.1 rfl (lv_room (Nat.le_of_ble_eq_true rfl)) dL_law_350 ⟨Nat.le_of_ble_eq_true rfl, Nat.le_of_ble_eq_true rfl⟩) hS (fun q _ h => hFc q h) hFc (fun r_1 u_1 t H1 locs ht hvm e_1 hB hz1 hk1 hS => ?_)
  try dsimp only at e_1
  have hP1 : va_P (dC, dI) vwCl [] H1 := zz_P0
  have hD1 : va_D (va_A [(a 0, .inr (7, [.ref (a 1), .ref (a 10), .ref (a 23), .ref (a 24), .ref (a 26), .ref (a 29), .ref (a 34), .ref (a 43), .int 0, .int 0, .int 0, .int 0])), (a 24, .inr (6, [.ref (a 25), .int 0]))] H.size) [] := zz_D0
  obtain ⟨hP, hD⟩ := va_join (wr := [(b 0, .inr (8, [.ref (b 1), .int 0, .int 0, .int 0, .int 0, .int 0, .int 0, .int 0, .int (-1), .int (-1), .ref (b 11), .ref (b 12), .ref (b 13), .int 0, .int 0, .ref (b 16), .ref (b 17), .ref (b 18), .ref (b 19), .ref (b 20), .ref (b 21), .ref (b 22), .ref (b 23), .ref (b 24), .int 0, .ref (b 26), .ref (b 27), .ref (b 28), .ref (b 29), .ref (b 30), .ref (b 31), .ref (b 32), .int 0, .int 0, .ref (b 35), .ref (b 36), .ref (b 37), .ref (b 38), .ref (b 39), .ref (b 40), .int 0, .ref (b 42), .ref (b 43), .ref (b 44), .int 0, .ref (b 46), .ref (b 47), .int 0, .ref (b 49)]))]) (w1 := []) hP hD [0, 1] [2] rfl rfl (by decide) (by decide) hk1 hFc hP1 hD1
  clear hk1 ht hvm
  generalize H1 = H at hP hS ⊢
  have hP : va_P (dC, dI) vwCl [(b 0, .inr (8, [.ref (b 1), .int 0, .int 0, .int 0, .int 0, .int 0, .int 0, .int 0, .int (-1), .int (-1), .ref (b 11), .ref (b 12), .ref (b 13), .int 0, .int 0, .ref (b 16), .ref (b 17), .ref (b 18), .ref (b 19), .ref (b 20), .ref (b 21), .ref (b 22), .ref (b 23), .ref (b 24), .int 0, .ref (b 26), .ref (b 27), .ref (b 28), .ref (b 29), .ref (b 30), .ref (b 31), .ref (b 32), .int 0, .int 0, .ref (b 35), .ref (b 36), .ref (b 37), .ref (b 38), .ref (b 39), .ref (b 40), .int 0, .ref (b 42), .ref (b 43), .ref (b 44), .int 0, .ref (b 46), .ref (b 47), .int 0, .ref (b 49)]))] H := hP
  have hD : va_D (fun q : Nat => s.heap.size ≤ q) [(b 0, .inr (8, [.ref (b 1), .int 0, .int 0, .int 0, .int 0, .int 0, .int 0, .int 0, .int (-1), .int (-1), .ref (b 11), .ref (b 12), .ref (b 13), .int 0, .int 0, .ref (b 16), .ref (b 17), .ref (b 18), .ref (b 19), .ref (b 20), .ref (b 21), .ref (b 22), .ref (b 23), .ref (b 24), .int 0, .ref (b 26), .ref (b 27), .ref (b 28), .ref (b 29), .ref (b 30), .ref (b 31), .ref (b 32), .int 0, .int 0, .ref (b 35), .ref (b 36), .ref (b 37), .ref (b 38), .ref (b 39), .ref (b 40), .int 0, .ref (b 42), .ref (b 43), .ref (b 44), .int 0, .ref (b 46), .ref (b 47), .int 0, .ref (b 49)]))] := hD
  refine lv_aload_n hx hb dL_law_353 rfl (lv_at hl 1 rfl) ?_
  refine lv_aload_n hx hb dL_law_354 rfl (lv_at hl 3 rfl) ?_
  refine lv_iload_n hx hb dL_law_355 rfl (lv_at hl 0 rfl) ?_
  refine lv_iconst (v := 1) hx hb dL_law_356 (by decide) ?_
  refine lv_iadd hx hb dL_law_357 ?_
  refine zz_seti 1 (by decide) ?_
  refine va_sld hx hb hX hbl hbA hS (by rw [hL6]; exact zz_vin (by decide)) dL_law_358 ?_
  have hPc := hP.sub (ws' := [(b 0, .inr (8, [.ref (b 1), .int 0, .int 0, .int 0, .int 0, .int 0, .int 0, .int 0, .int (-1), .int (-1), .ref (b 11), .ref (b 12), .ref (b 13), .int 0, .int 0, .ref (b 16), .ref (b 17), .ref (b 18), .ref (b 19), .ref (b 20), .ref (b 21), .ref (b 22), .ref (b 23), .ref (b 24), .int 0, .ref (b 26), .ref (b 27), .ref (b 28), .ref (b 29), .ref (b 30), .ref (b 31), .ref (b 32), .int 0, .int 0, .ref (b 35), .ref (b 36), .ref (b 37), .ref (b 38), .ref (b 39), .ref (b 40), .int 0, .ref (b 42), .ref (b 43), .ref (b 44), .int 0, .ref (b 46), .ref (b 47), .int 0, .ref (b 49)]))]) [0] rfl
  have hDc := hD.sub (ws' := [(b 0, .inr (8, [.ref (b 1), .int 0, .int 0, .int 0, .int 0, .int 0, .int 0, .int 0, .int (-1), .int (-1), .ref (b 11), .ref (b 12), .ref (b 13), .int 0, .int 0, .ref (b 16), .ref (b 17), .ref (b 18), .ref (b 19), .ref (b 20), .ref (b 21), .ref (b 22), .ref (b 23), .ref (b 24), .int 0, .ref (b 26), .ref (b 27), .ref (b 28), .ref (b 29), .ref (b 30), .ref (b 31), .ref (b 32), .int 0, .int 0, .ref (b 35), .ref (b 36), .ref (b 37), .ref (b 38), .ref (b 39), .ref (b 40), .int 0, .ref (b 42), .ref (b 43), .ref (b 44), .int 0, .ref (b 46), .ref (b 47), .int 0, .ref (b 49)]))]) [0] (by decide) rfl
  have hKc := hK.sub (tys' := []) [] rfl
  have hFc := va_free (wc := [(b 0, .inr (8, [.ref (b 1), .int 0, .int 0, .int 0, .int 0, .int 0, .int 0, .int 0, .int (-1), .int (-1), .ref (b 11), .ref (b 12), .ref (b 13), .int 0, .int 0, .ref (b 16), .ref (b 17), .ref (b 18), .ref (b 19), .ref (b 20), .ref (b 21), .ref (b 22), .ref (b 23), .ref (b 24), .int 0, .ref (b 26), .ref (b 27), .ref (b 28), .ref (b 29), .ref (b 30), .ref (b 31), .ref (b 32), .int 0, .int 0, .ref (b 35), .ref (b 36), .ref (b 37), .ref (b 38), .ref (b 39), .ref (b 40), .int 0, .ref (b 42), .ref (b 43), .ref (b 44), .int 0, .ref (b 46), .ref (b 47), .int 0, .ref (b 49)]))]) hD hS hA [0] rfl
  refine va_calli (va_runV (As := [.int (xs (Int32.toNatClampNeg 1))]) (rest := [.int r_1]) ⟨hx, hb, hml, hown, hw⟩ (m_end l dC dI b (xs (Int32.toNatClampNeg 1)) H.size) ⟨callB_of 1 hw (zz_good tw_296) rfl rfl rfl (hw _ tw_95) (hw _ tw_297) (by decide +kernel) ⟨Nat.le_of_ble_eq_true rfl, Nat.le_of_ble_eq_true rfl⟩, (hw _ tw_298), (hw _ tw_299)⟩ ⟨zz_blind, va_recv hKc hPc (ci := 8) (q0 := 0) rfl rfl, zz_pre hPc hKc hDc hN⟩ rfl rfl hl.1 rfl (lv_room (Nat.le_of_ble_eq_true rfl)) dL_law_359 ⟨Nat.le_of_ble_eq_true rfl, Nat.le_of_ble_eq_true rfl⟩) hS (fun q _ h => hFc q h) hFc (fun r_2 u_2 t H1 locs ht hvm e_2 hB hz1 hk1 hS => ?_)
  try dsimp only at e_2
  have hP1 : va_P (dC, dI) vwCl [] H1 := zz_P0
  have hD1 : va_D (va_A [(b 0, .inr (8, [.ref (b 1), .int 0, .int 0, .int 0, .int 0, .int 0, .int 0, .int 0, .int (-1), .int (-1), .ref (b 11), .ref (b 12), .ref (b 13), .int 0, .int 0, .ref (b 16), .ref (b 17), .ref (b 18), .ref (b 19), .ref (b 20), .ref (b 21), .ref (b 22), .ref (b 23), .ref (b 24), .int 0, .ref (b 26), .ref (b 27), .ref (b 28), .ref (b 29), .ref (b 30), .ref (b 31), .ref (b 32), .int 0, .int 0, .ref (b 35), .ref (b 36), .ref (b 37), .ref (b 38), .ref (b 39), .ref (b 40), .int 0, .ref (b 42), .ref (b 43), .ref (b 44), .int 0, .ref (b 46), .ref (b 47), .int 0, .ref (b 49)]))] H.size) [] := zz_D0
  obtain ⟨hP, hD⟩ := va_join (wr := []) (w1 := []) hP hD [0] [] rfl rfl (by decide) (by decide) hk1 hFc hP1 hD1
  clear hk1 ht hvm
  generalize H1 = H at hP hS ⊢
  have hP : va_P (dC, dI) vwCl [] H := hP
  have hD : va_D (fun q : Nat => s.heap.size ≤ q) [] := hD
  refine lv_icmp_eq (tgt := 818) hx hb dL_law_362 (by decide) (fun _ => ?_) (fun c_3 => absurd c_3 (fun z9 => z9 (e_1.trans e_2.symm)))
  exact law_end l hL6 C0 hS (lv_sub hl [0, 3] rfl) (by decide) (by decide)


set_option maxHeartbeats 4000000 in
set_option maxRecDepth 100000 in
theorem lc_custom {p : Program} {e : Env} {s : State} {m : MethodId} {below : List Frame} {meth : Method} {c : Code} (l : Launch) {sb L : Nat} {xs : Nat → Int32} (hL6 : L = 6) (C0 : lw_At p s m meth c sb L xs) {dC : Nat → ClassId} {dI : Nat → Nat → Nat} (hN : zz_N s) (a : Nat → Nat) (cI : ClassId) (b0 : Nat) (ft : Nat → Int32) (b : Nat → Nat) (cZ : ClassId) (fc : Nat → Int32) (hU : zz_Un b0 (fun q : Nat => s.heap.size ≤ q) s) {H : Heap} {locs : List Loc} {ls : Array Slot} (hK : va_K (dC, dI) vwCl [(cI, .int), (cZ, .boolean)] s) (hP : va_P (dC, dI) vwCl [(a 0, .inr (7, [.ref (a 1), .ref (a 10), .ref (a 23), .ref (a 24), .ref (a 26), .ref (a 29), .ref (a 34), .ref (a 43), .int 0, .int 0, .int 0, .int 0])), (a 24, .inr (6, [.ref (a 25), .int 0])), (a 26, .inr (0, [.ref (a 27), .ref (a 28), .int (-1), .int (-1), .int 0, .int 0, .int 0, .int 0])), (a 27, .inl (cI, 7, .inl ft)), (a 28, .inl (cI, 7, .inl (fun _ => (0 : Int32)))), (b 0, .inr (8, [.ref (b 1), .int 0, .int 0, .int 0, .int 0, .int 0, .int 0, .int 0, .int (-1), .int (-1), .ref (b 11), .ref (b 12), .ref (b 13), .int 0, .int 0, .ref (b 16), .ref (b 17), .ref (b 18), .ref (b 19), .ref (b 20), .ref (b 21), .ref (b 22), .ref (b 23), .ref (b 24), .int 0, .ref (b 26), .ref (b 27), .ref (b 28), .ref (b 29), .ref (b 30), .ref (b 31), .ref (b 32), .int 0, .int 0, .ref (b 35), .ref (b 36), .ref (b 37), .ref (b 38), .ref (b 39), .ref (b 40), .int 0, .ref (b 42), .ref (b 43), .ref (b 44), .int 0, .ref (b 46), .ref (b 47), .int 0, .ref (b 49)])), (b 11, .inl (cZ, 7, .inl (fun _ => (0 : Int32)))), (b 12, .inl (cI, 7, .inl (fun _ => (0 : Int32)))), (b 13, .inl (cI, 7, .inl fc))] H) (hD : va_D (fun q : Nat => s.heap.size ≤ q) [(a 0, .inr (7, [.ref (a 1), .ref (a 10), .ref (a 23), .ref (a 24), .ref (a 26), .ref (a 29), .ref (a 34), .ref (a 43), .int 0, .int 0, .int 0, .int 0])), (a 24, .inr (6, [.ref (a 25), .int 0])), (a 26, .inr (0, [.ref (a 27), .ref (a 28), .int (-1), .int (-1), .int 0, .int 0, .int 0, .int 0])), (a 27, .inl (cI, 7, .inl ft)), (a 28, .inl (cI, 7, .inl (fun _ => (0 : Int32)))), (b 0, .inr (8, [.ref (b 1), .int 0, .int 0, .int 0, .int 0, .int 0, .int 0, .int 0, .int (-1), .int (-1), .ref (b 11), .ref (b 12), .ref (b 13), .int 0, .int 0, .ref (b 16), .ref (b 17), .ref (b 18), .ref (b 19), .ref (b 20), .ref (b 21), .ref (b 22), .ref (b 23), .ref (b 24), .int 0, .ref (b 26), .ref (b 27), .ref (b 28), .ref (b 29), .ref (b 30), .ref (b 31), .ref (b 32), .int 0, .int 0, .ref (b 35), .ref (b 36), .ref (b 37), .ref (b 38), .ref (b 39), .ref (b 40), .int 0, .ref (b 42), .ref (b 43), .ref (b 44), .int 0, .ref (b 46), .ref (b 47), .int 0, .ref (b 49)])), (b 11, .inl (cZ, 7, .inl (fun _ => (0 : Int32)))), (b 12, .inl (cI, 7, .inl (fun _ => (0 : Int32)))), (b 13, .inl (cI, 7, .inl fc))]) (hS : va_S (fun q : Nat => s.heap.size ≤ q) s.heap H locs) (hl : lv_has ls 4 [(3, .int 0), (2, .ref (b 0)), (1, .ref (a 0)), (0, .ref sb)]) : W p l e room_1 s m #[Value.ref sb] below meth c H locs 85 4448 (lw_Z below #[Value.ref sb] s) (F0 m 367 ls []) := by
  obtain ⟨hx, hb, hr, hml, hown, hts, hX, hbl, hlocks, hgv⟩ := id C0
  have hw : ∀ w ∈ zz_all, w.before #[Value.ref sb] s = true := fun w h => hts w (zz_in_tbl h)
  have hown : s.vm.findClass RL = some m.cls := hown
  have hA : ∀ q : Nat, s.heap.size ≤ q → (fun q : Nat => s.heap.size ≤ q) q := fun _ h => h
  have hbA : ¬ (fun q : Nat => s.heap.size ≤ q) sb := Nat.not_le.mpr hbl
  refine lv_aload_n hx hb dL_law_367 rfl (lv_at hl 2 rfl) ?_
  have hPc := hP.sub (ws' := [(a 0, .inr (7, [.ref (a 1), .ref (a 10), .ref (a 23), .ref (a 24), .ref (a 26), .ref (a 29), .ref (a 34), .ref (a 43), .int 0, .int 0, .int 0, .int 0])), (a 24, .inr (6, [.ref (a 25), .int 0])), (a 26, .inr (0, [.ref (a 27), .ref (a 28), .int (-1), .int (-1), .int 0, .int 0, .int 0, .int 0])), (a 27, .inl (cI, 7, .inl ft)), (a 28, .inl (cI, 7, .inl (fun _ => (0 : Int32))))]) [0, 1, 2, 3, 4] rfl
  have hDc := hD.sub (ws' := [(a 0, .inr (7, [.ref (a 1), .ref (a 10), .ref (a 23), .ref (a 24), .ref (a 26), .ref (a 29), .ref (a 34), .ref (a 43), .int 0, .int 0, .int 0, .int 0])), (a 24, .inr (6, [.ref (a 25), .int 0])), (a 26, .inr (0, [.ref (a 27), .ref (a 28), .int (-1), .int (-1), .int 0, .int 0, .int 0, .int 0])), (a 27, .inl (cI, 7, .inl ft)), (a 28, .inl (cI, 7, .inl (fun _ => (0 : Int32))))]) [0, 1, 2, 3, 4] (by decide) rfl
  have hKc := hK.sub (tys' := [(cI, .int)]) [0] rfl
  have hFc := va_free (wc := [(a 0, .inr (7, [.ref (a 1), .ref (a 10), .ref (a 23), .ref (a 24), .ref (a 26), .ref (a 29), .ref (a 34), .ref (a 43), .int 0, .int 0, .int 0, .int 0])), (a 24, .inr (6, [.ref (a 25), .int 0])), (a 26, .inr (0, [.ref (a 27), .ref (a 28), .int (-1), .int (-1), .int 0, .int 0, .int 0, .int 0])), (a 27, .inl (cI, 7, .inl ft)), (a 28, .inl (cI, 7, .inl (fun _ => (0 : Int32))))]) hD hS hA [0, 1, 2, 3, 4] rfl
  refine va_calli (va_runV (As := []) (rest := []) ⟨hx, hb, hml, hown, hw⟩ (k_custom l dC dI a cI b0 ft H.size) ⟨callB_of 0 hw (zz_good tw_300) rfl rfl rfl (hw _ tw_2) (hw _ tw_301) (by decide +kernel) ⟨Nat.le_of_ble_eq_true rfl, Nat.le_of_ble_eq_true rfl⟩, (hw _ tw_302), (hw _ tw_303)⟩ ⟨zz_blindU, va_recv hKc hPc (ci := 7) (q0 := 0) rfl rfl, zz_preU hPc hKc hDc hN hU hS hFc⟩ rfl rfl hl.1 rfl (lv_room (Nat.le_of_ble_eq_true rfl)) dL_law_368 ⟨Nat.le_of_ble_eq_true rfl, Nat.le_of_ble_eq_true rfl⟩) hS (fun q _ h => hFc q h) hFc (fun r_1 u_1 t H1 locs ht hvm e_1 hB hz1 hk1 hS => ?_)
  try dsimp only at e_1
  have hP1 : va_P (dC, dI) vwCl [] H1 := zz_P0
  have hD1 : va_D (va_A [(a 0, .inr (7, [.ref (a 1), .ref (a 10), .ref (a 23), .ref (a 24), .ref (a 26), .ref (a 29), .ref (a 34), .ref (a 43), .int 0, .int 0, .int 0, .int 0])), (a 24, .inr (6, [.ref (a 25), .int 0])), (a 26, .inr (0, [.ref (a 27), .ref (a 28), .int (-1), .int (-1), .int 0, .int 0, .int 0, .int 0])), (a 27, .inl (cI, 7, .inl ft)), (a 28, .inl (cI, 7, .inl (fun _ => (0 : Int32))))] H.size) [] := zz_D0
  obtain ⟨hP, hD⟩ := va_join (wr := [(b 0, .inr (8, [.ref (b 1), .int 0, .int 0, .int 0, .int 0, .int 0, .int 0, .int 0, .int (-1), .int (-1), .ref (b 11), .ref (b 12), .ref (b 13), .int 0, .int 0, .ref (b 16), .ref (b 17), .ref (b 18), .ref (b 19), .ref (b 20), .ref (b 21), .ref (b 22), .ref (b 23), .ref (b 24), .int 0, .ref (b 26), .ref (b 27), .ref (b 28), .ref (b 29), .ref (b 30), .ref (b 31), .ref (b 32), .int 0, .int 0, .ref (b 35), .ref (b 36), .ref (b 37), .ref (b 38), .ref (b 39), .ref (b 40), .int 0, .ref (b 42), .ref (b 43), .ref (b 44), .int 0, .ref (b 46), .ref (b 47), .int 0, .ref (b 49)])), (b 11, .inl (cZ, 7, .inl (fun _ => (0 : Int32)))), (b 12, .inl (cI, 7, .inl (fun _ => (0 : Int32)))), (b 13, .inl (cI, 7, .inl fc))]) (w1 := []) hP hD [0, 1, 2, 3, 4] [5, 6, 7, 8] rfl rfl (by decide) (by decide) hk1 hFc hP1 hD1
  clear hk1 ht hvm
  generalize H1 = H at hP hS ⊢
  have hP : va_P (dC, dI) vwCl [(b 0, .inr (8, [.ref (b 1), .int 0, .int 0, .int 0, .int 0, .int 0, .int 0, .int 0, .int (-1), .int (-1), .ref (b 11), .ref (b 12), .ref (b 13), .int 0, .int 0, .ref (b 16), .ref (b 17), .ref (b 18), .ref (b 19), .ref (b 20), .ref (b 21), .ref (b 22), .ref (b 23), .ref (b 24), .int 0, .ref (b 26), .ref (b 27), .ref (b 28), .ref (b 29), .ref (b 30), .ref (b 31), .ref (b 32), .int 0, .int 0, .ref (b 35), .ref (b 36), .ref (b 37), .ref (b 38), .ref (b 39), .ref (b 40), .int 0, .ref (b 42), .ref (b 43), .ref (b 44), .int 0, .ref (b 46), .ref (b 47), .int 0, .ref (b 49)])), (b 11, .inl (cZ, 7, .inl (fun _ => (0 : Int32)))), (b 12, .inl (cI, 7, .inl (fun _ => (0 : Int32)))), (b 13, .inl (cI, 7, .inl fc))] H := hP
  have hD : va_D (fun q : Nat => s.heap.size ≤ q) [(b 0, .inr (8, [.ref (b 1), .int 0, .int 0, .int 0, .int 0, .int 0, .int 0, .int 0, .int (-1), .int (-1), .ref (b 11), .ref (b 12), .ref (b 13), .int 0, .int 0, .ref (b 16), .ref (b 17), .ref (b 18), .ref (b 19), .ref (b 20), .ref (b 21), .ref (b 22), .ref (b 23), .ref (b 24), .int 0, .ref (b 26), .ref (b 27), .ref (b 28), .ref (b 29), .ref (b 30), .ref (b 31), .ref (b 32), .int 0, .int 0, .ref (b 35), .ref (b 36), .ref (b 37), .ref (b 38), .ref (b 39), .ref (b 40), .int 0, .ref (b 42), .ref (b 43), .ref (b 44), .int 0, .ref (b 46), .ref (b 47), .int 0, .ref (b 49)])), (b 11, .inl (cZ, 7, .inl (fun _ => (0 : Int32)))), (b 12, .inl (cI, 7, .inl (fun _ => (0 : Int32)))), (b 13, .inl (cI, 7, .inl fc))] := hD
  refine lv_aload_n hx hb dL_law_371 rfl (lv_at hl 1 rfl) ?_
  have hPc := hP.sub (ws' := [(b 0, .inr (8, [.ref (b 1), .int 0, .int 0, .int 0, .int 0, .int 0, .int 0, .int 0, .int (-1), .int (-1), .ref (b 11), .ref (b 12), .ref (b 13), .int 0, .int 0, .ref (b 16), .ref (b 17), .ref (b 18), .ref (b 19), .ref (b 20), .ref (b 21), .ref (b 22), .ref (b 23), .ref (b 24), .int 0, .ref (b 26), .ref (b 27), .ref (b 28), .ref (b 29), .ref (b 30), .ref (b 31), .ref (b 32), .int 0, .int 0, .ref (b 35), .ref (b 36), .ref (b 37), .ref (b 38), .ref (b 39), .ref (b 40), .int 0, .ref (b 42), .ref (b 43), .ref (b 44), .int 0, .ref (b 46), .ref (b 47), .int 0, .ref (b 49)])), (b 11, .inl (cZ, 7, .inl (fun _ => (0 : Int32)))), (b 12, .inl (cI, 7, .inl (fun _ => (0 : Int32)))), (b 13, .inl (cI, 7, .inl fc))]) [0, 1, 2, 3] rfl
  have hDc := hD.sub (ws' := [(b 0, .inr (8, [.ref (b 1), .int 0, .int 0, .int 0, .int 0, .int 0, .int 0, .int 0, .int (-1), .int (-1), .ref (b 11), .ref (b 12), .ref (b 13), .int 0, .int 0, .ref (b 16), .ref (b 17), .ref (b 18), .ref (b 19), .ref (b 20), .ref (b 21), .ref (b 22), .ref (b 23), .ref (b 24), .int 0, .ref (b 26), .ref (b 27), .ref (b 28), .ref (b 29), .ref (b 30), .ref (b 31), .ref (b 32), .int 0, .int 0, .ref (b 35), .ref (b 36), .ref (b 37), .ref (b 38), .ref (b 39), .ref (b 40), .int 0, .ref (b 42), .ref (b 43), .ref (b 44), .int 0, .ref (b 46), .ref (b 47), .int 0, .ref (b 49)])), (b 11, .inl (cZ, 7, .inl (fun _ => (0 : Int32)))), (b 12, .inl (cI, 7, .inl (fun _ => (0 : Int32)))), (b 13, .inl (cI, 7, .inl fc))]) [0, 1, 2, 3] (by decide) rfl
  have hKc := hK.sub (tys' := [(cI, .int), (cZ, .boolean)]) [0, 1] rfl
  have hFc := va_free (wc := [(b 0, .inr (8, [.ref (b 1), .int 0, .int 0, .int 0, .int 0, .int 0, .int 0, .int 0, .int (-1), .int (-1), .ref (b 11), .ref (b 12), .ref (b 13), .int 0, .int 0, .ref (b 16), .ref (b 17), .ref (b 18), .ref (b 19), .ref (b 20), .ref (b 21), .ref (b 22), .ref (b 23), .ref (b 24), .int 0, .ref (b 26), .ref (b 27), .ref (b 28), .ref (b 29), .ref (b 30), .ref (b 31), .ref (b 32), .int 0, .int 0, .ref (b 35), .ref (b 36), .ref (b 37), .ref (b 38), .ref (b 39), .ref (b 40), .int 0, .ref (b 42), .ref (b 43), .ref (b 44), .int 0, .ref (b 46), .ref (b 47), .int 0, .ref (b 49)])), (b 11, .inl (cZ, 7, .inl (fun _ => (0 : Int32)))), (b 12, .inl (cI, 7, .inl (fun _ => (0 : Int32)))), (b 13, .inl (cI, 7, .inl fc))]) hD hS hA [0, 1, 2, 3] rfl
  refine va_calli (va_runV (As := []) (rest := [.int r_1]) ⟨hx, hb, hml, hown, hw⟩ (m_custom l dC dI b cI cZ fc H.size) ⟨callB_of 0 hw (zz_good tw_304) rfl rfl rfl (hw _ tw_95) (hw _ tw_305) (by decide +kernel) ⟨Nat.le_of_ble_eq_true rfl, Nat.le_of_ble_eq_true rfl⟩, (hw _ tw_306), (hw _ tw_307)⟩ ⟨zz_blind, va_recv hKc hPc (ci := 8) (q0 := 0) rfl rfl, zz_pre hPc hKc hDc hN⟩ rfl rfl hl.1 rfl (lv_room (Nat.le_of_ble_eq_true rfl)) dL_law_372 ⟨Nat.le_of_ble_eq_true rfl, Nat.le_of_ble_eq_true rfl⟩) hS (fun q _ h => hFc q h) hFc (fun r_2 u_2 t H1 locs ht hvm e_2 hB hz1 hk1 hS => ?_)
  try dsimp only at e_2
  have hP1 : va_P (dC, dI) vwCl [] H1 := zz_P0
  have hD1 : va_D (va_A [(b 0, .inr (8, [.ref (b 1), .int 0, .int 0, .int 0, .int 0, .int 0, .int 0, .int 0, .int (-1), .int (-1), .ref (b 11), .ref (b 12), .ref (b 13), .int 0, .int 0, .ref (b 16), .ref (b 17), .ref (b 18), .ref (b 19), .ref (b 20), .ref (b 21), .ref (b 22), .ref (b 23), .ref (b 24), .int 0, .ref (b 26), .ref (b 27), .ref (b 28), .ref (b 29), .ref (b 30), .ref (b 31), .ref (b 32), .int 0, .int 0, .ref (b 35), .ref (b 36), .ref (b 37), .ref (b 38), .ref (b 39), .ref (b 40), .int 0, .ref (b 42), .ref (b 43), .ref (b 44), .int 0, .ref (b 46), .ref (b 47), .int 0, .ref (b 49)])), (b 11, .inl (cZ, 7, .inl (fun _ => (0 : Int32)))), (b 12, .inl (cI, 7, .inl (fun _ => (0 : Int32)))), (b 13, .inl (cI, 7, .inl fc))] H.size) [] := zz_D0
  obtain ⟨hP, hD⟩ := va_join (wr := []) (w1 := []) hP hD [0, 1, 2, 3] [] rfl rfl (by decide) (by decide) hk1 hFc hP1 hD1
  clear hk1 ht hvm
  generalize H1 = H at hP hS ⊢
  have hP : va_P (dC, dI) vwCl [] H := hP
  have hD : va_D (fun q : Nat => s.heap.size ≤ q) [] := hD
  refine lv_icmp_eq (tgt := 818) hx hb dL_law_375 (by decide) (fun _ => ?_) (fun c_3 => absurd c_3 (fun z9 => z9 (e_1.trans e_2.symm)))
  exact law_end l hL6 C0 hS (lv_sub hl [0, 3] rfl) (by decide) (by decide)


set_option maxHeartbeats 4000000 in
set_option maxRecDepth 100000 in
theorem lc_fault {p : Program} {e : Env} {s : State} {m : MethodId} {below : List Frame} {meth : Method} {c : Code} (l : Launch) {sb L : Nat} {xs : Nat → Int32} (hL6 : L = 6) (C0 : lw_At p s m meth c sb L xs) {dC : Nat → ClassId} {dI : Nat → Nat → Nat} (hN : zz_N s) (a : Nat → Nat) (b : Nat → Nat) {H : Heap} {locs : List Loc} {ls : Array Slot} (hK : va_K (dC, dI) vwCl [] s) (hP : va_P (dC, dI) vwCl [(a 0, .inr (7, [.ref (a 1), .ref (a 10), .ref (a 23), .ref (a 24), .ref (a 26), .ref (a 29), .ref (a 34), .ref (a 43), .int 0, .int 0, .int 0, .int 0])), (a 26, .inr (0, [.ref (a 27), .ref (a 28), .int (-1), .int (-1), .int 0, .int 0, .int 0, .int 0])), (b 0, .inr (8, [.ref (b 1), .int 0, .int 0, .int 0, .int 0, .int 0, .int 0, .int 0, .int (-1), .int (-1), .ref (b 11), .ref (b 12), .ref (b 13), .int 0, .int 0, .ref (b 16), .ref (b 17), .ref (b 18), .ref (b 19), .ref (b 20), .ref (b 21), .ref (b 22), .ref (b 23), .ref (b 24), .int 0, .ref (b 26), .ref (b 27), .ref (b 28), .ref (b 29), .ref (b 30), .ref (b 31), .ref (b 32), .int 0, .int 0, .ref (b 35), .ref (b 36), .ref (b 37), .ref (b 38), .ref (b 39), .ref (b 40), .int 0, .ref (b 42), .ref (b 43), .ref (b 44), .int 0, .ref (b 46), .ref (b 47), .int 0, .ref (b 49)]))] H) (hD : va_D (fun q : Nat => s.heap.size ≤ q) [(a 0, .inr (7, [.ref (a 1), .ref (a 10), .ref (a 23), .ref (a 24), .ref (a 26), .ref (a 29), .ref (a 34), .ref (a 43), .int 0, .int 0, .int 0, .int 0])), (a 26, .inr (0, [.ref (a 27), .ref (a 28), .int (-1), .int (-1), .int 0, .int 0, .int 0, .int 0])), (b 0, .inr (8, [.ref (b 1), .int 0, .int 0, .int 0, .int 0, .int 0, .int 0, .int 0, .int (-1), .int (-1), .ref (b 11), .ref (b 12), .ref (b 13), .int 0, .int 0, .ref (b 16), .ref (b 17), .ref (b 18), .ref (b 19), .ref (b 20), .ref (b 21), .ref (b 22), .ref (b 23), .ref (b 24), .int 0, .ref (b 26), .ref (b 27), .ref (b 28), .ref (b 29), .ref (b 30), .ref (b 31), .ref (b 32), .int 0, .int 0, .ref (b 35), .ref (b 36), .ref (b 37), .ref (b 38), .ref (b 39), .ref (b 40), .int 0, .ref (b 42), .ref (b 43), .ref (b 44), .int 0, .ref (b 46), .ref (b 47), .int 0, .ref (b 49)]))]) (hS : va_S (fun q : Nat => s.heap.size ≤ q) s.heap H locs) (hl : lv_has ls 4 [(3, .int 0), (2, .ref (b 0)), (1, .ref (a 0)), (0, .ref sb)]) : W p l e room_1 s m #[Value.ref sb] below meth c H locs 85 4448 (lw_Z below #[Value.ref sb] s) (F0 m 380 ls []) := by
  obtain ⟨hx, hb, hr, hml, hown, hts, hX, hbl, hlocks, hgv⟩ := id C0
  have hw : ∀ w ∈ zz_all, w.before #[Value.ref sb] s = true := fun w h => hts w (zz_in_tbl h)
  have hown : s.vm.findClass RL = some m.cls := hown
  have hA : ∀ q : Nat, s.heap.size ≤ q → (fun q : Nat => s.heap.size ≤ q) q := fun _ h => h
  have hbA : ¬ (fun q : Nat => s.heap.size ≤ q) sb := Nat.not_le.mpr hbl
  refine lv_aload_n hx hb dL_law_380 rfl (lv_at hl 2 rfl) ?_
  refine lv_aload_n hx hb dL_law_381 rfl (lv_at hl 3 rfl) ?_
  refine lv_iload_n hx hb dL_law_382 rfl (lv_at hl 0 rfl) ?_
  refine lv_iconst (v := 1) hx hb dL_law_383 (by decide) ?_
  refine lv_iadd hx hb dL_law_384 ?_
  refine zz_seti 1 (by decide) ?_
  refine va_sld hx hb hX hbl hbA hS (by rw [hL6]; exact zz_vin (by decide)) dL_law_385 ?_
  have hPc := hP.sub (ws' := [(a 0, .inr (7, [.ref (a 1), .ref (a 10), .ref (a 23), .ref (a 24), .ref (a 26), .ref (a 29), .ref (a 34), .ref (a 43), .int 0, .int 0, .int 0, .int 0])), (a 26, .inr (0, [.ref (a 27), .ref (a 28), .int (-1), .int (-1), .int 0, .int 0, .int 0, .int 0]))]) [0, 1] rfl
  have hDc := hD.sub (ws' := [(a 0, .inr (7, [.ref (a 1), .ref (a 10), .ref (a 23), .ref (a 24), .ref (a 26), .ref (a 29), .ref (a 34), .ref (a 43), .int 0, .int 0, .int 0, .int 0])), (a 26, .inr (0, [.ref (a 27), .ref (a 28), .int (-1), .int (-1), .int 0, .int 0, .int 0, .int 0]))]) [0, 1] (by decide) rfl
  have hKc := hK.sub (tys' := []) [] rfl
  have hFc := zz_free0 hS hA
  refine va_calli (va_runV (As := [.int (xs (Int32.toNatClampNeg 1))]) (rest := []) ⟨hx, hb, hml, hown, hw⟩ (k_fault l dC dI a (xs (Int32.toNatClampNeg 1)) H.size) ⟨callB_of 1 hw (zz_good tw_308) rfl rfl rfl (hw _ tw_2) (hw _ tw_309) (by decide +kernel) ⟨Nat.le_of_ble_eq_true rfl, Nat.le_of_ble_eq_true rfl⟩, (hw _ tw_310), (hw _ tw_311)⟩ ⟨zz_blind, va_recv hKc hPc (ci := 7) (q0 := 0) rfl rfl, zz_pre hPc hKc hDc hN⟩ rfl rfl hl.1 rfl (lv_room (Nat.le_of_ble_eq_true rfl)) dL_law_386 ⟨Nat.le_of_ble_eq_true rfl, Nat.le_of_ble_eq_true rfl⟩) hS (fun q _ h => hFc q h) hFc (fun r_1 u_1 t H1 locs ht hvm e_1 hB hz1 hk1 hS => ?_)
  try dsimp only at e_1
  have hP := zz_keep hP hk1
  clear hk1 hB ht hvm
  generalize H1 = H at hP hS ⊢
  have hP : va_P (dC, dI) vwCl [(a 0, .inr (7, [.ref (a 1), .ref (a 10), .ref (a 23), .ref (a 24), .ref (a 26), .ref (a 29), .ref (a 34), .ref (a 43), .int 0, .int 0, .int 0, .int 0])), (a 26, .inr (0, [.ref (a 27), .ref (a 28), .int (-1), .int (-1), .int 0, .int 0, .int 0, .int 0])), (b 0, .inr (8, [.ref (b 1), .int 0, .int 0, .int 0, .int 0, .int 0, .int 0, .int 0, .int (-1), .int (-1), .ref (b 11), .ref (b 12), .ref (b 13), .int 0, .int 0, .ref (b 16), .ref (b 17), .ref (b 18), .ref (b 19), .ref (b 20), .ref (b 21), .ref (b 22), .ref (b 23), .ref (b 24), .int 0, .ref (b 26), .ref (b 27), .ref (b 28), .ref (b 29), .ref (b 30), .ref (b 31), .ref (b 32), .int 0, .int 0, .ref (b 35), .ref (b 36), .ref (b 37), .ref (b 38), .ref (b 39), .ref (b 40), .int 0, .ref (b 42), .ref (b 43), .ref (b 44), .int 0, .ref (b 46), .ref (b 47), .int 0, .ref (b 49)]))] H := hP
  have hD : va_D (fun q : Nat => s.heap.size ≤ q) [(a 0, .inr (7, [.ref (a 1), .ref (a 10), .ref (a 23), .ref (a 24), .ref (a 26), .ref (a 29), .ref (a 34), .ref (a 43), .int 0, .int 0, .int 0, .int 0])), (a 26, .inr (0, [.ref (a 27), .ref (a 28), .int (-1), .int (-1), .int 0, .int 0, .int 0, .int 0])), (b 0, .inr (8, [.ref (b 1), .int 0, .int 0, .int 0, .int 0, .int 0, .int 0, .int 0, .int (-1), .int (-1), .ref (b 11), .ref (b 12), .ref (b 13), .int 0, .int 0, .ref (b 16), .ref (b 17), .ref (b 18), .ref (b 19), .ref (b 20), .ref (b 21), .ref (b 22), .ref (b 23), .ref (b 24), .int 0, .ref (b 26), .ref (b 27), .ref (b 28), .ref (b 29), .ref (b 30), .ref (b 31), .ref (b 32), .int 0, .int 0, .ref (b 35), .ref (b 36), .ref (b 37), .ref (b 38), .ref (b 39), .ref (b 40), .int 0, .ref (b 42), .ref (b 43), .ref (b 44), .int 0, .ref (b 46), .ref (b 47), .int 0, .ref (b 49)]))] := hD
  refine lv_aload_n hx hb dL_law_389 rfl (lv_at hl 1 rfl) ?_
  refine lv_aload_n hx hb dL_law_390 rfl (lv_at hl 3 rfl) ?_
  refine lv_iload_n hx hb dL_law_391 rfl (lv_at hl 0 rfl) ?_
  refine lv_iconst (v := 1) hx hb dL_law_392 (by decide) ?_
  refine lv_iadd hx hb dL_law_393 ?_
  refine zz_seti 1 (by decide) ?_
  refine va_sld hx hb hX hbl hbA hS (by rw [hL6]; exact zz_vin (by decide)) dL_law_394 ?_
  have hPc := hP.sub (ws' := [(b 0, .inr (8, [.ref (b 1), .int 0, .int 0, .int 0, .int 0, .int 0, .int 0, .int 0, .int (-1), .int (-1), .ref (b 11), .ref (b 12), .ref (b 13), .int 0, .int 0, .ref (b 16), .ref (b 17), .ref (b 18), .ref (b 19), .ref (b 20), .ref (b 21), .ref (b 22), .ref (b 23), .ref (b 24), .int 0, .ref (b 26), .ref (b 27), .ref (b 28), .ref (b 29), .ref (b 30), .ref (b 31), .ref (b 32), .int 0, .int 0, .ref (b 35), .ref (b 36), .ref (b 37), .ref (b 38), .ref (b 39), .ref (b 40), .int 0, .ref (b 42), .ref (b 43), .ref (b 44), .int 0, .ref (b 46), .ref (b 47), .int 0, .ref (b 49)]))]) [2] rfl
  have hDc := hD.sub (ws' := [(b 0, .inr (8, [.ref (b 1), .int 0, .int 0, .int 0, .int 0, .int 0, .int 0, .int 0, .int (-1), .int (-1), .ref (b 11), .ref (b 12), .ref (b 13), .int 0, .int 0, .ref (b 16), .ref (b 17), .ref (b 18), .ref (b 19), .ref (b 20), .ref (b 21), .ref (b 22), .ref (b 23), .ref (b 24), .int 0, .ref (b 26), .ref (b 27), .ref (b 28), .ref (b 29), .ref (b 30), .ref (b 31), .ref (b 32), .int 0, .int 0, .ref (b 35), .ref (b 36), .ref (b 37), .ref (b 38), .ref (b 39), .ref (b 40), .int 0, .ref (b 42), .ref (b 43), .ref (b 44), .int 0, .ref (b 46), .ref (b 47), .int 0, .ref (b 49)]))]) [2] (by decide) rfl
  have hKc := hK.sub (tys' := []) [] rfl
  have hFc := zz_free0 hS hA
  refine va_calli (va_runV (As := [.int (xs (Int32.toNatClampNeg 1))]) (rest := [.int r_1]) ⟨hx, hb, hml, hown, hw⟩ (m_fault l dC dI b (xs (Int32.toNatClampNeg 1)) H.size) ⟨callB_of 1 hw (zz_good tw_312) rfl rfl rfl (hw _ tw_95) (hw _ tw_313) (by decide +kernel) ⟨Nat.le_of_ble_eq_true rfl, Nat.le_of_ble_eq_true rfl⟩, (hw _ tw_314), (hw _ tw_315)⟩ ⟨zz_blind, va_recv hKc hPc (ci := 8) (q0 := 0) rfl rfl, zz_pre hPc hKc hDc hN⟩ rfl rfl hl.1 rfl (lv_room (Nat.le_of_ble_eq_true rfl)) dL_law_395 ⟨Nat.le_of_ble_eq_true rfl, Nat.le_of_ble_eq_true rfl⟩) hS (fun q _ h => hFc q h) hFc (fun r_2 u_2 t H1 locs ht hvm e_2 hB hz1 hk1 hS => ?_)
  try dsimp only at e_2
  have hP := zz_keep hP hk1
  clear hk1 hB ht hvm
  generalize H1 = H at hP hS ⊢
  have hP : va_P (dC, dI) vwCl [(a 0, .inr (7, [.ref (a 1), .ref (a 10), .ref (a 23), .ref (a 24), .ref (a 26), .ref (a 29), .ref (a 34), .ref (a 43), .int 0, .int 0, .int 0, .int 0])), (a 26, .inr (0, [.ref (a 27), .ref (a 28), .int (-1), .int (-1), .int 0, .int 0, .int 0, .int 0])), (b 0, .inr (8, [.ref (b 1), .int 0, .int 0, .int 0, .int 0, .int 0, .int 0, .int 0, .int (-1), .int (-1), .ref (b 11), .ref (b 12), .ref (b 13), .int 0, .int 0, .ref (b 16), .ref (b 17), .ref (b 18), .ref (b 19), .ref (b 20), .ref (b 21), .ref (b 22), .ref (b 23), .ref (b 24), .int 0, .ref (b 26), .ref (b 27), .ref (b 28), .ref (b 29), .ref (b 30), .ref (b 31), .ref (b 32), .int 0, .int 0, .ref (b 35), .ref (b 36), .ref (b 37), .ref (b 38), .ref (b 39), .ref (b 40), .int 0, .ref (b 42), .ref (b 43), .ref (b 44), .int 0, .ref (b 46), .ref (b 47), .int 0, .ref (b 49)]))] H := hP
  have hD : va_D (fun q : Nat => s.heap.size ≤ q) [(a 0, .inr (7, [.ref (a 1), .ref (a 10), .ref (a 23), .ref (a 24), .ref (a 26), .ref (a 29), .ref (a 34), .ref (a 43), .int 0, .int 0, .int 0, .int 0])), (a 26, .inr (0, [.ref (a 27), .ref (a 28), .int (-1), .int (-1), .int 0, .int 0, .int 0, .int 0])), (b 0, .inr (8, [.ref (b 1), .int 0, .int 0, .int 0, .int 0, .int 0, .int 0, .int 0, .int (-1), .int (-1), .ref (b 11), .ref (b 12), .ref (b 13), .int 0, .int 0, .ref (b 16), .ref (b 17), .ref (b 18), .ref (b 19), .ref (b 20), .ref (b 21), .ref (b 22), .ref (b 23), .ref (b 24), .int 0, .ref (b 26), .ref (b 27), .ref (b 28), .ref (b 29), .ref (b 30), .ref (b 31), .ref (b 32), .int 0, .int 0, .ref (b 35), .ref (b 36), .ref (b 37), .ref (b 38), .ref (b 39), .ref (b 40), .int 0, .ref (b 42), .ref (b 43), .ref (b 44), .int 0, .ref (b 46), .ref (b 47), .int 0, .ref (b 49)]))] := hD
  refine lv_icmp_eq (tgt := 818) hx hb dL_law_398 (by decide) (fun _ => ?_) (fun c_3 => absurd c_3 (fun z9 => z9 (e_1.trans e_2.symm)))
  exact law_end l hL6 C0 hS (lv_sub hl [0, 3] rfl) (by decide) (by decide)


set_option maxHeartbeats 4000000 in
set_option maxRecDepth 100000 in
theorem lc_says {p : Program} {e : Env} {s : State} {m : MethodId} {below : List Frame} {meth : Method} {c : Code} (l : Launch) {sb L : Nat} {xs : Nat → Int32} (hL6 : L = 6) (C0 : lw_At p s m meth c sb L xs) {dC : Nat → ClassId} {dI : Nat → Nat → Nat} (hN : zz_N s) (a : Nat → Nat) (cI : ClassId) (ft : Nat → Int32) (b : Nat → Nat) (fc : Nat → Int32) (hft : ∀ k, k < 7 → ft k = zz_un k) (hfc : ∀ k, k < 7 → fc k = zz_un k) {H : Heap} {locs : List Loc} {ls : Array Slot} (hK : va_K (dC, dI) vwCl [(cI, .int)] s) (hP : va_P (dC, dI) vwCl [(a 0, .inr (7, [.ref (a 1), .ref (a 10), .ref (a 23), .ref (a 24), .ref (a 26), .ref (a 29), .ref (a 34), .ref (a 43), .int 0, .int 0, .int 0, .int 0])), (a 26, .inr (0, [.ref (a 27), .ref (a 28), .int (-1), .int (-1), .int 0, .int 0, .int 0, .int 0])), (a 27, .inl (cI, 7, .inl ft)), (b 0, .inr (8, [.ref (b 1), .int 0, .int 0, .int 0, .int 0, .int 0, .int 0, .int 0, .int (-1), .int (-1), .ref (b 11), .ref (b 12), .ref (b 13), .int 0, .int 0, .ref (b 16), .ref (b 17), .ref (b 18), .ref (b 19), .ref (b 20), .ref (b 21), .ref (b 22), .ref (b 23), .ref (b 24), .int 0, .ref (b 26), .ref (b 27), .ref (b 28), .ref (b 29), .ref (b 30), .ref (b 31), .ref (b 32), .int 0, .int 0, .ref (b 35), .ref (b 36), .ref (b 37), .ref (b 38), .ref (b 39), .ref (b 40), .int 0, .ref (b 42), .ref (b 43), .ref (b 44), .int 0, .ref (b 46), .ref (b 47), .int 0, .ref (b 49)])), (b 13, .inl (cI, 7, .inl fc))] H) (hD : va_D (fun q : Nat => s.heap.size ≤ q) [(a 0, .inr (7, [.ref (a 1), .ref (a 10), .ref (a 23), .ref (a 24), .ref (a 26), .ref (a 29), .ref (a 34), .ref (a 43), .int 0, .int 0, .int 0, .int 0])), (a 26, .inr (0, [.ref (a 27), .ref (a 28), .int (-1), .int (-1), .int 0, .int 0, .int 0, .int 0])), (a 27, .inl (cI, 7, .inl ft)), (b 0, .inr (8, [.ref (b 1), .int 0, .int 0, .int 0, .int 0, .int 0, .int 0, .int 0, .int (-1), .int (-1), .ref (b 11), .ref (b 12), .ref (b 13), .int 0, .int 0, .ref (b 16), .ref (b 17), .ref (b 18), .ref (b 19), .ref (b 20), .ref (b 21), .ref (b 22), .ref (b 23), .ref (b 24), .int 0, .ref (b 26), .ref (b 27), .ref (b 28), .ref (b 29), .ref (b 30), .ref (b 31), .ref (b 32), .int 0, .int 0, .ref (b 35), .ref (b 36), .ref (b 37), .ref (b 38), .ref (b 39), .ref (b 40), .int 0, .ref (b 42), .ref (b 43), .ref (b 44), .int 0, .ref (b 46), .ref (b 47), .int 0, .ref (b 49)])), (b 13, .inl (cI, 7, .inl fc))]) (hS : va_S (fun q : Nat => s.heap.size ≤ q) s.heap H locs) (hl : lv_has ls 4 [(3, .int 0), (2, .ref (b 0)), (1, .ref (a 0)), (0, .ref sb)]) : W p l e room_1 s m #[Value.ref sb] below meth c H locs 85 4448 (lw_Z below #[Value.ref sb] s) (F0 m 403 ls []) := by
  obtain ⟨hx, hb, hr, hml, hown, hts, hX, hbl, hlocks, hgv⟩ := id C0
  have hw : ∀ w ∈ zz_all, w.before #[Value.ref sb] s = true := fun w h => hts w (zz_in_tbl h)
  have hown : s.vm.findClass RL = some m.cls := hown
  have hA : ∀ q : Nat, s.heap.size ≤ q → (fun q : Nat => s.heap.size ≤ q) q := fun _ h => h
  have hbA : ¬ (fun q : Nat => s.heap.size ≤ q) sb := Nat.not_le.mpr hbl
  refine lv_aload_n hx hb dL_law_403 rfl (lv_at hl 2 rfl) ?_
  refine lv_aload_n hx hb dL_law_404 rfl (lv_at hl 3 rfl) ?_
  refine lv_iload_n hx hb dL_law_405 rfl (lv_at hl 0 rfl) ?_
  refine lv_iconst (v := 1) hx hb dL_law_406 (by decide) ?_
  refine lv_iadd hx hb dL_law_407 ?_
  refine zz_seti 1 (by decide) ?_
  refine va_sld hx hb hX hbl hbA hS (by rw [hL6]; exact zz_vin (by decide)) dL_law_408 ?_
  have hPc := hP.sub (ws' := [(a 0, .inr (7, [.ref (a 1), .ref (a 10), .ref (a 23), .ref (a 24), .ref (a 26), .ref (a 29), .ref (a 34), .ref (a 43), .int 0, .int 0, .int 0, .int 0])), (a 26, .inr (0, [.ref (a 27), .ref (a 28), .int (-1), .int (-1), .int 0, .int 0, .int 0, .int 0])), (a 27, .inl (cI, 7, .inl ft))]) [0, 1, 2] rfl
  have hDc := hD.sub (ws' := [(a 0, .inr (7, [.ref (a 1), .ref (a 10), .ref (a 23), .ref (a 24), .ref (a 26), .ref (a 29), .ref (a 34), .ref (a 43), .int 0, .int 0, .int 0, .int 0])), (a 26, .inr (0, [.ref (a 27), .ref (a 28), .int (-1), .int (-1), .int 0, .int 0, .int 0, .int 0])), (a 27, .inl (cI, 7, .inl ft))]) [0, 1, 2] (by decide) rfl
  have hKc := hK.sub (tys' := [(cI, .int)]) [0] rfl
  have hFc := zz_free0 hS hA
  refine va_calli (va_runV (As := [.int (xs (Int32.toNatClampNeg 1))]) (rest := []) ⟨hx, hb, hml, hown, hw⟩ (k_says l dC dI a cI ft (xs (Int32.toNatClampNeg 1)) H.size hft) ⟨callB_of 1 hw (zz_good tw_316) rfl rfl rfl (hw _ tw_2) (hw _ tw_317) (by decide +kernel) ⟨Nat.le_of_ble_eq_true rfl, Nat.le_of_ble_eq_true rfl⟩, (hw _ tw_318), (hw _ tw_319)⟩ ⟨zz_blind, va_recv hKc hPc (ci := 7) (q0 := 0) rfl rfl, zz_pre hPc hKc hDc hN⟩ rfl rfl hl.1 rfl (lv_room (Nat.le_of_ble_eq_true rfl)) dL_law_409 ⟨Nat.le_of_ble_eq_true rfl, Nat.le_of_ble_eq_true rfl⟩) hS (fun q _ h => hFc q h) hFc (fun r_1 u_1 t H1 locs ht hvm e_1 hB hz1 hk1 hS => ?_)
  try dsimp only at e_1
  have hP := zz_keep hP hk1
  clear hk1 hB ht hvm
  generalize H1 = H at hP hS ⊢
  have hP : va_P (dC, dI) vwCl [(a 0, .inr (7, [.ref (a 1), .ref (a 10), .ref (a 23), .ref (a 24), .ref (a 26), .ref (a 29), .ref (a 34), .ref (a 43), .int 0, .int 0, .int 0, .int 0])), (a 26, .inr (0, [.ref (a 27), .ref (a 28), .int (-1), .int (-1), .int 0, .int 0, .int 0, .int 0])), (a 27, .inl (cI, 7, .inl ft)), (b 0, .inr (8, [.ref (b 1), .int 0, .int 0, .int 0, .int 0, .int 0, .int 0, .int 0, .int (-1), .int (-1), .ref (b 11), .ref (b 12), .ref (b 13), .int 0, .int 0, .ref (b 16), .ref (b 17), .ref (b 18), .ref (b 19), .ref (b 20), .ref (b 21), .ref (b 22), .ref (b 23), .ref (b 24), .int 0, .ref (b 26), .ref (b 27), .ref (b 28), .ref (b 29), .ref (b 30), .ref (b 31), .ref (b 32), .int 0, .int 0, .ref (b 35), .ref (b 36), .ref (b 37), .ref (b 38), .ref (b 39), .ref (b 40), .int 0, .ref (b 42), .ref (b 43), .ref (b 44), .int 0, .ref (b 46), .ref (b 47), .int 0, .ref (b 49)])), (b 13, .inl (cI, 7, .inl fc))] H := hP
  have hD : va_D (fun q : Nat => s.heap.size ≤ q) [(a 0, .inr (7, [.ref (a 1), .ref (a 10), .ref (a 23), .ref (a 24), .ref (a 26), .ref (a 29), .ref (a 34), .ref (a 43), .int 0, .int 0, .int 0, .int 0])), (a 26, .inr (0, [.ref (a 27), .ref (a 28), .int (-1), .int (-1), .int 0, .int 0, .int 0, .int 0])), (a 27, .inl (cI, 7, .inl ft)), (b 0, .inr (8, [.ref (b 1), .int 0, .int 0, .int 0, .int 0, .int 0, .int 0, .int 0, .int (-1), .int (-1), .ref (b 11), .ref (b 12), .ref (b 13), .int 0, .int 0, .ref (b 16), .ref (b 17), .ref (b 18), .ref (b 19), .ref (b 20), .ref (b 21), .ref (b 22), .ref (b 23), .ref (b 24), .int 0, .ref (b 26), .ref (b 27), .ref (b 28), .ref (b 29), .ref (b 30), .ref (b 31), .ref (b 32), .int 0, .int 0, .ref (b 35), .ref (b 36), .ref (b 37), .ref (b 38), .ref (b 39), .ref (b 40), .int 0, .ref (b 42), .ref (b 43), .ref (b 44), .int 0, .ref (b 46), .ref (b 47), .int 0, .ref (b 49)])), (b 13, .inl (cI, 7, .inl fc))] := hD
  refine lv_aload_n hx hb dL_law_412 rfl (lv_at hl 1 rfl) ?_
  refine lv_aload_n hx hb dL_law_413 rfl (lv_at hl 3 rfl) ?_
  refine lv_iload_n hx hb dL_law_414 rfl (lv_at hl 0 rfl) ?_
  refine lv_iconst (v := 1) hx hb dL_law_415 (by decide) ?_
  refine lv_iadd hx hb dL_law_416 ?_
  refine zz_seti 1 (by decide) ?_
  refine va_sld hx hb hX hbl hbA hS (by rw [hL6]; exact zz_vin (by decide)) dL_law_417 ?_
  have hPc := hP.sub (ws' := [(b 0, .inr (8, [.ref (b 1), .int 0, .int 0, .int 0, .int 0, .int 0, .int 0, .int 0, .int (-1), .int (-1), .ref (b 11), .ref (b 12), .ref (b 13), .int 0, .int 0, .ref (b 16), .ref (b 17), .ref (b 18), .ref (b 19), .ref (b 20), .ref (b 21), .ref (b 22), .ref (b 23), .ref (b 24), .int 0, .ref (b 26), .ref (b 27), .ref (b 28), .ref (b 29), .ref (b 30), .ref (b 31), .ref (b 32), .int 0, .int 0, .ref (b 35), .ref (b 36), .ref (b 37), .ref (b 38), .ref (b 39), .ref (b 40), .int 0, .ref (b 42), .ref (b 43), .ref (b 44), .int 0, .ref (b 46), .ref (b 47), .int 0, .ref (b 49)])), (b 13, .inl (cI, 7, .inl fc))]) [3, 4] rfl
  have hDc := hD.sub (ws' := [(b 0, .inr (8, [.ref (b 1), .int 0, .int 0, .int 0, .int 0, .int 0, .int 0, .int 0, .int (-1), .int (-1), .ref (b 11), .ref (b 12), .ref (b 13), .int 0, .int 0, .ref (b 16), .ref (b 17), .ref (b 18), .ref (b 19), .ref (b 20), .ref (b 21), .ref (b 22), .ref (b 23), .ref (b 24), .int 0, .ref (b 26), .ref (b 27), .ref (b 28), .ref (b 29), .ref (b 30), .ref (b 31), .ref (b 32), .int 0, .int 0, .ref (b 35), .ref (b 36), .ref (b 37), .ref (b 38), .ref (b 39), .ref (b 40), .int 0, .ref (b 42), .ref (b 43), .ref (b 44), .int 0, .ref (b 46), .ref (b 47), .int 0, .ref (b 49)])), (b 13, .inl (cI, 7, .inl fc))]) [3, 4] (by decide) rfl
  have hKc := hK.sub (tys' := [(cI, .int)]) [0] rfl
  have hFc := zz_free0 hS hA
  refine va_calli (va_runV (As := [.int (xs (Int32.toNatClampNeg 1))]) (rest := [.int r_1]) ⟨hx, hb, hml, hown, hw⟩ (m_says l dC dI b cI fc (xs (Int32.toNatClampNeg 1)) H.size hfc) ⟨callB_of 1 hw (zz_good tw_320) rfl rfl rfl (hw _ tw_95) (hw _ tw_321) (by decide +kernel) ⟨Nat.le_of_ble_eq_true rfl, Nat.le_of_ble_eq_true rfl⟩, (hw _ tw_322), (hw _ tw_323)⟩ ⟨zz_blind, va_recv hKc hPc (ci := 8) (q0 := 0) rfl rfl, zz_pre hPc hKc hDc hN⟩ rfl rfl hl.1 rfl (lv_room (Nat.le_of_ble_eq_true rfl)) dL_law_418 ⟨Nat.le_of_ble_eq_true rfl, Nat.le_of_ble_eq_true rfl⟩) hS (fun q _ h => hFc q h) hFc (fun r_2 u_2 t H1 locs ht hvm e_2 hB hz1 hk1 hS => ?_)
  try dsimp only at e_2
  have hP := zz_keep hP hk1
  clear hk1 hB ht hvm
  generalize H1 = H at hP hS ⊢
  have hP : va_P (dC, dI) vwCl [(a 0, .inr (7, [.ref (a 1), .ref (a 10), .ref (a 23), .ref (a 24), .ref (a 26), .ref (a 29), .ref (a 34), .ref (a 43), .int 0, .int 0, .int 0, .int 0])), (a 26, .inr (0, [.ref (a 27), .ref (a 28), .int (-1), .int (-1), .int 0, .int 0, .int 0, .int 0])), (a 27, .inl (cI, 7, .inl ft)), (b 0, .inr (8, [.ref (b 1), .int 0, .int 0, .int 0, .int 0, .int 0, .int 0, .int 0, .int (-1), .int (-1), .ref (b 11), .ref (b 12), .ref (b 13), .int 0, .int 0, .ref (b 16), .ref (b 17), .ref (b 18), .ref (b 19), .ref (b 20), .ref (b 21), .ref (b 22), .ref (b 23), .ref (b 24), .int 0, .ref (b 26), .ref (b 27), .ref (b 28), .ref (b 29), .ref (b 30), .ref (b 31), .ref (b 32), .int 0, .int 0, .ref (b 35), .ref (b 36), .ref (b 37), .ref (b 38), .ref (b 39), .ref (b 40), .int 0, .ref (b 42), .ref (b 43), .ref (b 44), .int 0, .ref (b 46), .ref (b 47), .int 0, .ref (b 49)])), (b 13, .inl (cI, 7, .inl fc))] H := hP
  have hD : va_D (fun q : Nat => s.heap.size ≤ q) [(a 0, .inr (7, [.ref (a 1), .ref (a 10), .ref (a 23), .ref (a 24), .ref (a 26), .ref (a 29), .ref (a 34), .ref (a 43), .int 0, .int 0, .int 0, .int 0])), (a 26, .inr (0, [.ref (a 27), .ref (a 28), .int (-1), .int (-1), .int 0, .int 0, .int 0, .int 0])), (a 27, .inl (cI, 7, .inl ft)), (b 0, .inr (8, [.ref (b 1), .int 0, .int 0, .int 0, .int 0, .int 0, .int 0, .int 0, .int (-1), .int (-1), .ref (b 11), .ref (b 12), .ref (b 13), .int 0, .int 0, .ref (b 16), .ref (b 17), .ref (b 18), .ref (b 19), .ref (b 20), .ref (b 21), .ref (b 22), .ref (b 23), .ref (b 24), .int 0, .ref (b 26), .ref (b 27), .ref (b 28), .ref (b 29), .ref (b 30), .ref (b 31), .ref (b 32), .int 0, .int 0, .ref (b 35), .ref (b 36), .ref (b 37), .ref (b 38), .ref (b 39), .ref (b 40), .int 0, .ref (b 42), .ref (b 43), .ref (b 44), .int 0, .ref (b 46), .ref (b 47), .int 0, .ref (b 49)])), (b 13, .inl (cI, 7, .inl fc))] := hD
  refine lv_icmp_eq (tgt := 818) hx hb dL_law_421 (by decide) (fun _ => ?_) (fun c_3 => absurd c_3 (fun z9 => z9 (e_1.trans e_2.symm)))
  exact law_end l hL6 C0 hS (lv_sub hl [0, 3] rfl) (by decide) (by decide)


set_option maxHeartbeats 4000000 in
set_option maxRecDepth 100000 in
theorem lc_ill {p : Program} {e : Env} {s : State} {m : MethodId} {below : List Frame} {meth : Method} {c : Code} (l : Launch) {sb L : Nat} {xs : Nat → Int32} (hL6 : L = 6) (C0 : lw_At p s m meth c sb L xs) {dC : Nat → ClassId} {dI : Nat → Nat → Nat} (hN : zz_N s) (a : Nat → Nat) (b : Nat → Nat) {H : Heap} {locs : List Loc} {ls : Array Slot} (hK : va_K (dC, dI) vwCl [] s) (hP : va_P (dC, dI) vwCl [(a 0, .inr (7, [.ref (a 1), .ref (a 10), .ref (a 23), .ref (a 24), .ref (a 26), .ref (a 29), .ref (a 34), .ref (a 43), .int 0, .int 0, .int 0, .int 0])), (b 0, .inr (8, [.ref (b 1), .int 0, .int 0, .int 0, .int 0, .int 0, .int 0, .int 0, .int (-1), .int (-1), .ref (b 11), .ref (b 12), .ref (b 13), .int 0, .int 0, .ref (b 16), .ref (b 17), .ref (b 18), .ref (b 19), .ref (b 20), .ref (b 21), .ref (b 22), .ref (b 23), .ref (b 24), .int 0, .ref (b 26), .ref (b 27), .ref (b 28), .ref (b 29), .ref (b 30), .ref (b 31), .ref (b 32), .int 0, .int 0, .ref (b 35), .ref (b 36), .ref (b 37), .ref (b 38), .ref (b 39), .ref (b 40), .int 0, .ref (b 42), .ref (b 43), .ref (b 44), .int 0, .ref (b 46), .ref (b 47), .int 0, .ref (b 49)]))] H) (hD : va_D (fun q : Nat => s.heap.size ≤ q) [(a 0, .inr (7, [.ref (a 1), .ref (a 10), .ref (a 23), .ref (a 24), .ref (a 26), .ref (a 29), .ref (a 34), .ref (a 43), .int 0, .int 0, .int 0, .int 0])), (b 0, .inr (8, [.ref (b 1), .int 0, .int 0, .int 0, .int 0, .int 0, .int 0, .int 0, .int (-1), .int (-1), .ref (b 11), .ref (b 12), .ref (b 13), .int 0, .int 0, .ref (b 16), .ref (b 17), .ref (b 18), .ref (b 19), .ref (b 20), .ref (b 21), .ref (b 22), .ref (b 23), .ref (b 24), .int 0, .ref (b 26), .ref (b 27), .ref (b 28), .ref (b 29), .ref (b 30), .ref (b 31), .ref (b 32), .int 0, .int 0, .ref (b 35), .ref (b 36), .ref (b 37), .ref (b 38), .ref (b 39), .ref (b 40), .int 0, .ref (b 42), .ref (b 43), .ref (b 44), .int 0, .ref (b 46), .ref (b 47), .int 0, .ref (b 49)]))]) (hS : va_S (fun q : Nat => s.heap.size ≤ q) s.heap H locs) (hl : lv_has ls 4 [(3, .int 0), (2, .ref (b 0)), (1, .ref (a 0)), (0, .ref sb)]) : W p l e room_1 s m #[Value.ref sb] below meth c H locs 85 4448 (lw_Z below #[Value.ref sb] s) (F0 m 426 ls []) := by
  obtain ⟨hx, hb, hr, hml, hown, hts, hX, hbl, hlocks, hgv⟩ := id C0
  have hw : ∀ w ∈ zz_all, w.before #[Value.ref sb] s = true := fun w h => hts w (zz_in_tbl h)
  have hown : s.vm.findClass RL = some m.cls := hown
  have hA : ∀ q : Nat, s.heap.size ≤ q → (fun q : Nat => s.heap.size ≤ q) q := fun _ h => h
  have hbA : ¬ (fun q : Nat => s.heap.size ≤ q) sb := Nat.not_le.mpr hbl
  refine lv_aload_n hx hb dL_law_426 rfl (lv_at hl 2 rfl) ?_
  refine lv_aload_n hx hb dL_law_427 rfl (lv_at hl 3 rfl) ?_
  refine lv_iload_n hx hb dL_law_428 rfl (lv_at hl 0 rfl) ?_
  refine lv_iconst (v := 1) hx hb dL_law_429 (by decide) ?_
  refine lv_iadd hx hb dL_law_430 ?_
  refine zz_seti 1 (by decide) ?_
  refine va_sld hx hb hX hbl hbA hS (by rw [hL6]; exact zz_vin (by decide)) dL_law_431 ?_
  refine lv_aload_n hx hb dL_law_432 rfl (lv_at hl 3 rfl) ?_
  refine lv_iload_n hx hb dL_law_433 rfl (lv_at hl 0 rfl) ?_
  refine lv_iconst (v := 2) hx hb dL_law_434 (by decide) ?_
  refine lv_iadd hx hb dL_law_435 ?_
  refine zz_seti 2 (by decide) ?_
  refine va_sld hx hb hX hbl hbA hS (by rw [hL6]; exact zz_vin (by decide)) dL_law_436 ?_
  have hPc := hP.sub (ws' := [(a 0, .inr (7, [.ref (a 1), .ref (a 10), .ref (a 23), .ref (a 24), .ref (a 26), .ref (a 29), .ref (a 34), .ref (a 43), .int 0, .int 0, .int 0, .int 0]))]) [0] rfl
  have hDc := hD.sub (ws' := [(a 0, .inr (7, [.ref (a 1), .ref (a 10), .ref (a 23), .ref (a 24), .ref (a 26), .ref (a 29), .ref (a 34), .ref (a 43), .int 0, .int 0, .int 0, .int 0]))]) [0] (by decide) rfl
  have hKc := hK.sub (tys' := []) [] rfl
  have hFc := zz_free0 hS hA
  refine va_calli (va_runV (As := [.int (xs (Int32.toNatClampNeg 1)), .int (xs (Int32.toNatClampNeg 2))]) (rest := []) ⟨hx, hb, hml, hown, hw⟩ (k_ill l dC dI a (xs (Int32.toNatClampNeg 1)) (xs (Int32.toNatClampNeg 2)) H.size) ⟨callB_of 2 hw (zz_good tw_324) rfl rfl rfl (hw _ tw_2) (hw _ tw_325) (by decide +kernel) ⟨Nat.le_of_ble_eq_true rfl, Nat.le_of_ble_eq_true rfl⟩, (hw _ tw_326), (hw _ tw_327)⟩ ⟨zz_blind, va_recv hKc hPc (ci := 7) (q0 := 0) rfl rfl, zz_pre hPc hKc hDc hN⟩ rfl rfl hl.1 rfl (lv_room (Nat.le_of_ble_eq_true rfl)) dL_law_437 ⟨Nat.le_of_ble_eq_true rfl, Nat.le_of_ble_eq_true rfl⟩) hS (fun q _ h => hFc q h) hFc (fun r_1 u_1 t H1 locs ht hvm e_1 hB hz1 hk1 hS => ?_)
  try dsimp only at e_1
  have hP := zz_keep hP hk1
  clear hk1 hB ht hvm
  generalize H1 = H at hP hS ⊢
  have hP : va_P (dC, dI) vwCl [(a 0, .inr (7, [.ref (a 1), .ref (a 10), .ref (a 23), .ref (a 24), .ref (a 26), .ref (a 29), .ref (a 34), .ref (a 43), .int 0, .int 0, .int 0, .int 0])), (b 0, .inr (8, [.ref (b 1), .int 0, .int 0, .int 0, .int 0, .int 0, .int 0, .int 0, .int (-1), .int (-1), .ref (b 11), .ref (b 12), .ref (b 13), .int 0, .int 0, .ref (b 16), .ref (b 17), .ref (b 18), .ref (b 19), .ref (b 20), .ref (b 21), .ref (b 22), .ref (b 23), .ref (b 24), .int 0, .ref (b 26), .ref (b 27), .ref (b 28), .ref (b 29), .ref (b 30), .ref (b 31), .ref (b 32), .int 0, .int 0, .ref (b 35), .ref (b 36), .ref (b 37), .ref (b 38), .ref (b 39), .ref (b 40), .int 0, .ref (b 42), .ref (b 43), .ref (b 44), .int 0, .ref (b 46), .ref (b 47), .int 0, .ref (b 49)]))] H := hP
  have hD : va_D (fun q : Nat => s.heap.size ≤ q) [(a 0, .inr (7, [.ref (a 1), .ref (a 10), .ref (a 23), .ref (a 24), .ref (a 26), .ref (a 29), .ref (a 34), .ref (a 43), .int 0, .int 0, .int 0, .int 0])), (b 0, .inr (8, [.ref (b 1), .int 0, .int 0, .int 0, .int 0, .int 0, .int 0, .int 0, .int (-1), .int (-1), .ref (b 11), .ref (b 12), .ref (b 13), .int 0, .int 0, .ref (b 16), .ref (b 17), .ref (b 18), .ref (b 19), .ref (b 20), .ref (b 21), .ref (b 22), .ref (b 23), .ref (b 24), .int 0, .ref (b 26), .ref (b 27), .ref (b 28), .ref (b 29), .ref (b 30), .ref (b 31), .ref (b 32), .int 0, .int 0, .ref (b 35), .ref (b 36), .ref (b 37), .ref (b 38), .ref (b 39), .ref (b 40), .int 0, .ref (b 42), .ref (b 43), .ref (b 44), .int 0, .ref (b 46), .ref (b 47), .int 0, .ref (b 49)]))] := hD
  refine lv_aload_n hx hb dL_law_440 rfl (lv_at hl 1 rfl) ?_
  refine lv_aload_n hx hb dL_law_441 rfl (lv_at hl 3 rfl) ?_
  refine lv_iload_n hx hb dL_law_442 rfl (lv_at hl 0 rfl) ?_
  refine lv_iconst (v := 1) hx hb dL_law_443 (by decide) ?_
  refine lv_iadd hx hb dL_law_444 ?_
  refine zz_seti 1 (by decide) ?_
  refine va_sld hx hb hX hbl hbA hS (by rw [hL6]; exact zz_vin (by decide)) dL_law_445 ?_
  refine lv_aload_n hx hb dL_law_446 rfl (lv_at hl 3 rfl) ?_
  refine lv_iload_n hx hb dL_law_447 rfl (lv_at hl 0 rfl) ?_
  refine lv_iconst (v := 2) hx hb dL_law_448 (by decide) ?_
  refine lv_iadd hx hb dL_law_449 ?_
  refine zz_seti 2 (by decide) ?_
  refine va_sld hx hb hX hbl hbA hS (by rw [hL6]; exact zz_vin (by decide)) dL_law_450 ?_
  have hPc := hP.sub (ws' := [(b 0, .inr (8, [.ref (b 1), .int 0, .int 0, .int 0, .int 0, .int 0, .int 0, .int 0, .int (-1), .int (-1), .ref (b 11), .ref (b 12), .ref (b 13), .int 0, .int 0, .ref (b 16), .ref (b 17), .ref (b 18), .ref (b 19), .ref (b 20), .ref (b 21), .ref (b 22), .ref (b 23), .ref (b 24), .int 0, .ref (b 26), .ref (b 27), .ref (b 28), .ref (b 29), .ref (b 30), .ref (b 31), .ref (b 32), .int 0, .int 0, .ref (b 35), .ref (b 36), .ref (b 37), .ref (b 38), .ref (b 39), .ref (b 40), .int 0, .ref (b 42), .ref (b 43), .ref (b 44), .int 0, .ref (b 46), .ref (b 47), .int 0, .ref (b 49)]))]) [1] rfl
  have hDc := hD.sub (ws' := [(b 0, .inr (8, [.ref (b 1), .int 0, .int 0, .int 0, .int 0, .int 0, .int 0, .int 0, .int (-1), .int (-1), .ref (b 11), .ref (b 12), .ref (b 13), .int 0, .int 0, .ref (b 16), .ref (b 17), .ref (b 18), .ref (b 19), .ref (b 20), .ref (b 21), .ref (b 22), .ref (b 23), .ref (b 24), .int 0, .ref (b 26), .ref (b 27), .ref (b 28), .ref (b 29), .ref (b 30), .ref (b 31), .ref (b 32), .int 0, .int 0, .ref (b 35), .ref (b 36), .ref (b 37), .ref (b 38), .ref (b 39), .ref (b 40), .int 0, .ref (b 42), .ref (b 43), .ref (b 44), .int 0, .ref (b 46), .ref (b 47), .int 0, .ref (b 49)]))]) [1] (by decide) rfl
  have hKc := hK.sub (tys' := []) [] rfl
  have hFc := zz_free0 hS hA
  refine va_calli (va_runV (As := [.int (xs (Int32.toNatClampNeg 1)), .int (xs (Int32.toNatClampNeg 2))]) (rest := [.int r_1]) ⟨hx, hb, hml, hown, hw⟩ (m_ill l dC dI b (xs (Int32.toNatClampNeg 1)) (xs (Int32.toNatClampNeg 2)) H.size) ⟨callB_of 2 hw (zz_good tw_328) rfl rfl rfl (hw _ tw_95) (hw _ tw_329) (by decide +kernel) ⟨Nat.le_of_ble_eq_true rfl, Nat.le_of_ble_eq_true rfl⟩, (hw _ tw_330), (hw _ tw_331)⟩ ⟨zz_blind, va_recv hKc hPc (ci := 8) (q0 := 0) rfl rfl, zz_pre hPc hKc hDc hN⟩ rfl rfl hl.1 rfl (lv_room (Nat.le_of_ble_eq_true rfl)) dL_law_451 ⟨Nat.le_of_ble_eq_true rfl, Nat.le_of_ble_eq_true rfl⟩) hS (fun q _ h => hFc q h) hFc (fun r_2 u_2 t H1 locs ht hvm e_2 hB hz1 hk1 hS => ?_)
  try dsimp only at e_2
  have hP := zz_keep hP hk1
  clear hk1 hB ht hvm
  generalize H1 = H at hP hS ⊢
  have hP : va_P (dC, dI) vwCl [(a 0, .inr (7, [.ref (a 1), .ref (a 10), .ref (a 23), .ref (a 24), .ref (a 26), .ref (a 29), .ref (a 34), .ref (a 43), .int 0, .int 0, .int 0, .int 0])), (b 0, .inr (8, [.ref (b 1), .int 0, .int 0, .int 0, .int 0, .int 0, .int 0, .int 0, .int (-1), .int (-1), .ref (b 11), .ref (b 12), .ref (b 13), .int 0, .int 0, .ref (b 16), .ref (b 17), .ref (b 18), .ref (b 19), .ref (b 20), .ref (b 21), .ref (b 22), .ref (b 23), .ref (b 24), .int 0, .ref (b 26), .ref (b 27), .ref (b 28), .ref (b 29), .ref (b 30), .ref (b 31), .ref (b 32), .int 0, .int 0, .ref (b 35), .ref (b 36), .ref (b 37), .ref (b 38), .ref (b 39), .ref (b 40), .int 0, .ref (b 42), .ref (b 43), .ref (b 44), .int 0, .ref (b 46), .ref (b 47), .int 0, .ref (b 49)]))] H := hP
  have hD : va_D (fun q : Nat => s.heap.size ≤ q) [(a 0, .inr (7, [.ref (a 1), .ref (a 10), .ref (a 23), .ref (a 24), .ref (a 26), .ref (a 29), .ref (a 34), .ref (a 43), .int 0, .int 0, .int 0, .int 0])), (b 0, .inr (8, [.ref (b 1), .int 0, .int 0, .int 0, .int 0, .int 0, .int 0, .int 0, .int (-1), .int (-1), .ref (b 11), .ref (b 12), .ref (b 13), .int 0, .int 0, .ref (b 16), .ref (b 17), .ref (b 18), .ref (b 19), .ref (b 20), .ref (b 21), .ref (b 22), .ref (b 23), .ref (b 24), .int 0, .ref (b 26), .ref (b 27), .ref (b 28), .ref (b 29), .ref (b 30), .ref (b 31), .ref (b 32), .int 0, .int 0, .ref (b 35), .ref (b 36), .ref (b 37), .ref (b 38), .ref (b 39), .ref (b 40), .int 0, .ref (b 42), .ref (b 43), .ref (b 44), .int 0, .ref (b 46), .ref (b 47), .int 0, .ref (b 49)]))] := hD
  refine lv_icmp_eq (tgt := 818) hx hb dL_law_454 (by decide) (fun _ => ?_) (fun c_3 => absurd c_3 (fun z9 => z9 (e_1.trans e_2.symm)))
  exact law_end l hL6 C0 hS (lv_sub hl [0, 3] rfl) (by decide) (by decide)


set_option maxHeartbeats 4000000 in
set_option maxRecDepth 100000 in
theorem lc_work {p : Program} {e : Env} {s : State} {m : MethodId} {below : List Frame} {meth : Method} {c : Code} (l : Launch) {sb L : Nat} {xs : Nat → Int32} (hL6 : L = 6) (C0 : lw_At p s m meth c sb L xs) {dC : Nat → ClassId} {dI : Nat → Nat → Nat} (hN : zz_N s) (a : Nat → Nat) (b : Nat → Nat) {H : Heap} {locs : List Loc} {ls : Array Slot} (hK : va_K (dC, dI) vwCl [] s) (hP : va_P (dC, dI) vwCl [(a 0, .inr (7, [.ref (a 1), .ref (a 10), .ref (a 23), .ref (a 24), .ref (a 26), .ref (a 29), .ref (a 34), .ref (a 43), .int 0, .int 0, .int 0, .int 0])), (b 0, .inr (8, [.ref (b 1), .int 0, .int 0, .int 0, .int 0, .int 0, .int 0, .int 0, .int (-1), .int (-1), .ref (b 11), .ref (b 12), .ref (b 13), .int 0, .int 0, .ref (b 16), .ref (b 17), .ref (b 18), .ref (b 19), .ref (b 20), .ref (b 21), .ref (b 22), .ref (b 23), .ref (b 24), .int 0, .ref (b 26), .ref (b 27), .ref (b 28), .ref (b 29), .ref (b 30), .ref (b 31), .ref (b 32), .int 0, .int 0, .ref (b 35), .ref (b 36), .ref (b 37), .ref (b 38), .ref (b 39), .ref (b 40), .int 0, .ref (b 42), .ref (b 43), .ref (b 44), .int 0, .ref (b 46), .ref (b 47), .int 0, .ref (b 49)]))] H) (hD : va_D (fun q : Nat => s.heap.size ≤ q) [(a 0, .inr (7, [.ref (a 1), .ref (a 10), .ref (a 23), .ref (a 24), .ref (a 26), .ref (a 29), .ref (a 34), .ref (a 43), .int 0, .int 0, .int 0, .int 0])), (b 0, .inr (8, [.ref (b 1), .int 0, .int 0, .int 0, .int 0, .int 0, .int 0, .int 0, .int (-1), .int (-1), .ref (b 11), .ref (b 12), .ref (b 13), .int 0, .int 0, .ref (b 16), .ref (b 17), .ref (b 18), .ref (b 19), .ref (b 20), .ref (b 21), .ref (b 22), .ref (b 23), .ref (b 24), .int 0, .ref (b 26), .ref (b 27), .ref (b 28), .ref (b 29), .ref (b 30), .ref (b 31), .ref (b 32), .int 0, .int 0, .ref (b 35), .ref (b 36), .ref (b 37), .ref (b 38), .ref (b 39), .ref (b 40), .int 0, .ref (b 42), .ref (b 43), .ref (b 44), .int 0, .ref (b 46), .ref (b 47), .int 0, .ref (b 49)]))]) (hS : va_S (fun q : Nat => s.heap.size ≤ q) s.heap H locs) (hl : lv_has ls 4 [(3, .int 0), (2, .ref (b 0)), (1, .ref (a 0)), (0, .ref sb)]) : W p l e room_1 s m #[Value.ref sb] below meth c H locs 85 4448 (lw_Z below #[Value.ref sb] s) (F0 m 459 ls []) := by
  obtain ⟨hx, hb, hr, hml, hown, hts, hX, hbl, hlocks, hgv⟩ := id C0
  have hw : ∀ w ∈ zz_all, w.before #[Value.ref sb] s = true := fun w h => hts w (zz_in_tbl h)
  have hown : s.vm.findClass RL = some m.cls := hown
  have hA : ∀ q : Nat, s.heap.size ≤ q → (fun q : Nat => s.heap.size ≤ q) q := fun _ h => h
  have hbA : ¬ (fun q : Nat => s.heap.size ≤ q) sb := Nat.not_le.mpr hbl
  refine lv_aload_n hx hb dL_law_459 rfl (lv_at hl 2 rfl) ?_
  refine lv_aload_n hx hb dL_law_460 rfl (lv_at hl 3 rfl) ?_
  refine lv_iload_n hx hb dL_law_461 rfl (lv_at hl 0 rfl) ?_
  refine lv_iconst (v := 1) hx hb dL_law_462 (by decide) ?_
  refine lv_iadd hx hb dL_law_463 ?_
  refine zz_seti 1 (by decide) ?_
  refine va_sld hx hb hX hbl hbA hS (by rw [hL6]; exact zz_vin (by decide)) dL_law_464 ?_
  refine lv_aload_n hx hb dL_law_465 rfl (lv_at hl 3 rfl) ?_
  refine lv_iload_n hx hb dL_law_466 rfl (lv_at hl 0 rfl) ?_
  refine lv_iconst (v := 2) hx hb dL_law_467 (by decide) ?_
  refine lv_iadd hx hb dL_law_468 ?_
  refine zz_seti 2 (by decide) ?_
  refine va_sld hx hb hX hbl hbA hS (by rw [hL6]; exact zz_vin (by decide)) dL_law_469 ?_
  refine lv_aload_n hx hb dL_law_470 rfl (lv_at hl 3 rfl) ?_
  refine lv_iload_n hx hb dL_law_471 rfl (lv_at hl 0 rfl) ?_
  refine lv_iconst (v := 3) hx hb dL_law_472 (by decide) ?_
  refine lv_iadd hx hb dL_law_473 ?_
  refine zz_seti 3 (by decide) ?_
  refine va_sld hx hb hX hbl hbA hS (by rw [hL6]; exact zz_vin (by decide)) dL_law_474 ?_
  have hPc := hP.sub (ws' := [(a 0, .inr (7, [.ref (a 1), .ref (a 10), .ref (a 23), .ref (a 24), .ref (a 26), .ref (a 29), .ref (a 34), .ref (a 43), .int 0, .int 0, .int 0, .int 0]))]) [0] rfl
  have hDc := hD.sub (ws' := [(a 0, .inr (7, [.ref (a 1), .ref (a 10), .ref (a 23), .ref (a 24), .ref (a 26), .ref (a 29), .ref (a 34), .ref (a 43), .int 0, .int 0, .int 0, .int 0]))]) [0] (by decide) rfl
  have hKc := hK.sub (tys' := []) [] rfl
  have hFc := zz_free0 hS hA
  refine va_calli (va_runV (As := [.int (xs (Int32.toNatClampNeg 1)), .int (xs (Int32.toNatClampNeg 2)), .int (xs (Int32.toNatClampNeg 3))]) (rest := []) ⟨hx, hb, hml, hown, hw⟩ (k_work l dC dI a (xs (Int32.toNatClampNeg 1)) (xs (Int32.toNatClampNeg 2)) (xs (Int32.toNatClampNeg 3)) H.size) ⟨callB_of 3 hw (zz_good tw_332) rfl rfl rfl (hw _ tw_2) (hw _ tw_333) (by decide +kernel) ⟨Nat.le_of_ble_eq_true rfl, Nat.le_of_ble_eq_true rfl⟩, (hw _ tw_334), (hw _ tw_335)⟩ ⟨zz_blind, va_recv hKc hPc (ci := 7) (q0 := 0) rfl rfl, zz_pre hPc hKc hDc hN⟩ rfl rfl hl.1 rfl (lv_room (Nat.le_of_ble_eq_true rfl)) dL_law_475 ⟨Nat.le_of_ble_eq_true rfl, Nat.le_of_ble_eq_true rfl⟩) hS (fun q _ h => hFc q h) hFc (fun r_1 u_1 t H1 locs ht hvm e_1 hB hz1 hk1 hS => ?_)
  try dsimp only at e_1
  have hP := zz_keep hP hk1
  clear hk1 hB ht hvm
  generalize H1 = H at hP hS ⊢
  have hP : va_P (dC, dI) vwCl [(a 0, .inr (7, [.ref (a 1), .ref (a 10), .ref (a 23), .ref (a 24), .ref (a 26), .ref (a 29), .ref (a 34), .ref (a 43), .int 0, .int 0, .int 0, .int 0])), (b 0, .inr (8, [.ref (b 1), .int 0, .int 0, .int 0, .int 0, .int 0, .int 0, .int 0, .int (-1), .int (-1), .ref (b 11), .ref (b 12), .ref (b 13), .int 0, .int 0, .ref (b 16), .ref (b 17), .ref (b 18), .ref (b 19), .ref (b 20), .ref (b 21), .ref (b 22), .ref (b 23), .ref (b 24), .int 0, .ref (b 26), .ref (b 27), .ref (b 28), .ref (b 29), .ref (b 30), .ref (b 31), .ref (b 32), .int 0, .int 0, .ref (b 35), .ref (b 36), .ref (b 37), .ref (b 38), .ref (b 39), .ref (b 40), .int 0, .ref (b 42), .ref (b 43), .ref (b 44), .int 0, .ref (b 46), .ref (b 47), .int 0, .ref (b 49)]))] H := hP
  have hD : va_D (fun q : Nat => s.heap.size ≤ q) [(a 0, .inr (7, [.ref (a 1), .ref (a 10), .ref (a 23), .ref (a 24), .ref (a 26), .ref (a 29), .ref (a 34), .ref (a 43), .int 0, .int 0, .int 0, .int 0])), (b 0, .inr (8, [.ref (b 1), .int 0, .int 0, .int 0, .int 0, .int 0, .int 0, .int 0, .int (-1), .int (-1), .ref (b 11), .ref (b 12), .ref (b 13), .int 0, .int 0, .ref (b 16), .ref (b 17), .ref (b 18), .ref (b 19), .ref (b 20), .ref (b 21), .ref (b 22), .ref (b 23), .ref (b 24), .int 0, .ref (b 26), .ref (b 27), .ref (b 28), .ref (b 29), .ref (b 30), .ref (b 31), .ref (b 32), .int 0, .int 0, .ref (b 35), .ref (b 36), .ref (b 37), .ref (b 38), .ref (b 39), .ref (b 40), .int 0, .ref (b 42), .ref (b 43), .ref (b 44), .int 0, .ref (b 46), .ref (b 47), .int 0, .ref (b 49)]))] := hD
  refine lv_aload_n hx hb dL_law_478 rfl (lv_at hl 1 rfl) ?_
  refine lv_aload_n hx hb dL_law_479 rfl (lv_at hl 3 rfl) ?_
  refine lv_iload_n hx hb dL_law_480 rfl (lv_at hl 0 rfl) ?_
  refine lv_iconst (v := 1) hx hb dL_law_481 (by decide) ?_
  refine lv_iadd hx hb dL_law_482 ?_
  refine zz_seti 1 (by decide) ?_
  refine va_sld hx hb hX hbl hbA hS (by rw [hL6]; exact zz_vin (by decide)) dL_law_483 ?_
  refine lv_aload_n hx hb dL_law_484 rfl (lv_at hl 3 rfl) ?_
  refine lv_iload_n hx hb dL_law_485 rfl (lv_at hl 0 rfl) ?_
  refine lv_iconst (v := 2) hx hb dL_law_486 (by decide) ?_
  refine lv_iadd hx hb dL_law_487 ?_
  refine zz_seti 2 (by decide) ?_
  refine va_sld hx hb hX hbl hbA hS (by rw [hL6]; exact zz_vin (by decide)) dL_law_488 ?_
  refine lv_aload_n hx hb dL_law_489 rfl (lv_at hl 3 rfl) ?_
  refine lv_iload_n hx hb dL_law_490 rfl (lv_at hl 0 rfl) ?_
  refine lv_iconst (v := 3) hx hb dL_law_491 (by decide) ?_
  refine lv_iadd hx hb dL_law_492 ?_
  refine zz_seti 3 (by decide) ?_
  refine va_sld hx hb hX hbl hbA hS (by rw [hL6]; exact zz_vin (by decide)) dL_law_493 ?_
  have hPc := hP.sub (ws' := [(b 0, .inr (8, [.ref (b 1), .int 0, .int 0, .int 0, .int 0, .int 0, .int 0, .int 0, .int (-1), .int (-1), .ref (b 11), .ref (b 12), .ref (b 13), .int 0, .int 0, .ref (b 16), .ref (b 17), .ref (b 18), .ref (b 19), .ref (b 20), .ref (b 21), .ref (b 22), .ref (b 23), .ref (b 24), .int 0, .ref (b 26), .ref (b 27), .ref (b 28), .ref (b 29), .ref (b 30), .ref (b 31), .ref (b 32), .int 0, .int 0, .ref (b 35), .ref (b 36), .ref (b 37), .ref (b 38), .ref (b 39), .ref (b 40), .int 0, .ref (b 42), .ref (b 43), .ref (b 44), .int 0, .ref (b 46), .ref (b 47), .int 0, .ref (b 49)]))]) [1] rfl
  have hDc := hD.sub (ws' := [(b 0, .inr (8, [.ref (b 1), .int 0, .int 0, .int 0, .int 0, .int 0, .int 0, .int 0, .int (-1), .int (-1), .ref (b 11), .ref (b 12), .ref (b 13), .int 0, .int 0, .ref (b 16), .ref (b 17), .ref (b 18), .ref (b 19), .ref (b 20), .ref (b 21), .ref (b 22), .ref (b 23), .ref (b 24), .int 0, .ref (b 26), .ref (b 27), .ref (b 28), .ref (b 29), .ref (b 30), .ref (b 31), .ref (b 32), .int 0, .int 0, .ref (b 35), .ref (b 36), .ref (b 37), .ref (b 38), .ref (b 39), .ref (b 40), .int 0, .ref (b 42), .ref (b 43), .ref (b 44), .int 0, .ref (b 46), .ref (b 47), .int 0, .ref (b 49)]))]) [1] (by decide) rfl
  have hKc := hK.sub (tys' := []) [] rfl
  have hFc := zz_free0 hS hA
  refine va_calli (va_runV (As := [.int (xs (Int32.toNatClampNeg 1)), .int (xs (Int32.toNatClampNeg 2)), .int (xs (Int32.toNatClampNeg 3))]) (rest := [.int r_1]) ⟨hx, hb, hml, hown, hw⟩ (m_work l dC dI b (xs (Int32.toNatClampNeg 1)) (xs (Int32.toNatClampNeg 2)) (xs (Int32.toNatClampNeg 3)) H.size) ⟨callB_of 3 hw (zz_good tw_336) rfl rfl rfl (hw _ tw_95) (hw _ tw_337) (by decide +kernel) ⟨Nat.le_of_ble_eq_true rfl, Nat.le_of_ble_eq_true rfl⟩, (hw _ tw_338), (hw _ tw_339)⟩ ⟨zz_blind, va_recv hKc hPc (ci := 8) (q0 := 0) rfl rfl, zz_pre hPc hKc hDc hN⟩ rfl rfl hl.1 rfl (lv_room (Nat.le_of_ble_eq_true rfl)) dL_law_494 ⟨Nat.le_of_ble_eq_true rfl, Nat.le_of_ble_eq_true rfl⟩) hS (fun q _ h => hFc q h) hFc (fun r_2 u_2 t H1 locs ht hvm e_2 hB hz1 hk1 hS => ?_)
  try dsimp only at e_2
  have hP := zz_keep hP hk1
  clear hk1 hB ht hvm
  generalize H1 = H at hP hS ⊢
  have hP : va_P (dC, dI) vwCl [(a 0, .inr (7, [.ref (a 1), .ref (a 10), .ref (a 23), .ref (a 24), .ref (a 26), .ref (a 29), .ref (a 34), .ref (a 43), .int 0, .int 0, .int 0, .int 0])), (b 0, .inr (8, [.ref (b 1), .int 0, .int 0, .int 0, .int 0, .int 0, .int 0, .int 0, .int (-1), .int (-1), .ref (b 11), .ref (b 12), .ref (b 13), .int 0, .int 0, .ref (b 16), .ref (b 17), .ref (b 18), .ref (b 19), .ref (b 20), .ref (b 21), .ref (b 22), .ref (b 23), .ref (b 24), .int 0, .ref (b 26), .ref (b 27), .ref (b 28), .ref (b 29), .ref (b 30), .ref (b 31), .ref (b 32), .int 0, .int 0, .ref (b 35), .ref (b 36), .ref (b 37), .ref (b 38), .ref (b 39), .ref (b 40), .int 0, .ref (b 42), .ref (b 43), .ref (b 44), .int 0, .ref (b 46), .ref (b 47), .int 0, .ref (b 49)]))] H := hP
  have hD : va_D (fun q : Nat => s.heap.size ≤ q) [(a 0, .inr (7, [.ref (a 1), .ref (a 10), .ref (a 23), .ref (a 24), .ref (a 26), .ref (a 29), .ref (a 34), .ref (a 43), .int 0, .int 0, .int 0, .int 0])), (b 0, .inr (8, [.ref (b 1), .int 0, .int 0, .int 0, .int 0, .int 0, .int 0, .int 0, .int (-1), .int (-1), .ref (b 11), .ref (b 12), .ref (b 13), .int 0, .int 0, .ref (b 16), .ref (b 17), .ref (b 18), .ref (b 19), .ref (b 20), .ref (b 21), .ref (b 22), .ref (b 23), .ref (b 24), .int 0, .ref (b 26), .ref (b 27), .ref (b 28), .ref (b 29), .ref (b 30), .ref (b 31), .ref (b 32), .int 0, .int 0, .ref (b 35), .ref (b 36), .ref (b 37), .ref (b 38), .ref (b 39), .ref (b 40), .int 0, .ref (b 42), .ref (b 43), .ref (b 44), .int 0, .ref (b 46), .ref (b 47), .int 0, .ref (b 49)]))] := hD
  refine lv_icmp_eq (tgt := 818) hx hb dL_law_497 (by decide) (fun _ => ?_) (fun c_3 => absurd c_3 (fun z9 => z9 (e_1.trans e_2.symm)))
  exact law_end l hL6 C0 hS (lv_sub hl [0, 3] rfl) (by decide) (by decide)


set_option maxHeartbeats 4000000 in
set_option maxRecDepth 100000 in
theorem lc_hire {p : Program} {e : Env} {s : State} {m : MethodId} {below : List Frame} {meth : Method} {c : Code} (l : Launch) {sb L : Nat} {xs : Nat → Int32} (hL6 : L = 6) (C0 : lw_At p s m meth c sb L xs) {dC : Nat → ClassId} {dI : Nat → Nat → Nat} (hN : zz_N s) (a : Nat → Nat) (b : Nat → Nat) {H : Heap} {locs : List Loc} {ls : Array Slot} (hK : va_K (dC, dI) vwCl [] s) (hP : va_P (dC, dI) vwCl [(a 0, .inr (7, [.ref (a 1), .ref (a 10), .ref (a 23), .ref (a 24), .ref (a 26), .ref (a 29), .ref (a 34), .ref (a 43), .int 0, .int 0, .int 0, .int 0])), (b 0, .inr (8, [.ref (b 1), .int 0, .int 0, .int 0, .int 0, .int 0, .int 0, .int 0, .int (-1), .int (-1), .ref (b 11), .ref (b 12), .ref (b 13), .int 0, .int 0, .ref (b 16), .ref (b 17), .ref (b 18), .ref (b 19), .ref (b 20), .ref (b 21), .ref (b 22), .ref (b 23), .ref (b 24), .int 0, .ref (b 26), .ref (b 27), .ref (b 28), .ref (b 29), .ref (b 30), .ref (b 31), .ref (b 32), .int 0, .int 0, .ref (b 35), .ref (b 36), .ref (b 37), .ref (b 38), .ref (b 39), .ref (b 40), .int 0, .ref (b 42), .ref (b 43), .ref (b 44), .int 0, .ref (b 46), .ref (b 47), .int 0, .ref (b 49)]))] H) (hD : va_D (fun q : Nat => s.heap.size ≤ q) [(a 0, .inr (7, [.ref (a 1), .ref (a 10), .ref (a 23), .ref (a 24), .ref (a 26), .ref (a 29), .ref (a 34), .ref (a 43), .int 0, .int 0, .int 0, .int 0])), (b 0, .inr (8, [.ref (b 1), .int 0, .int 0, .int 0, .int 0, .int 0, .int 0, .int 0, .int (-1), .int (-1), .ref (b 11), .ref (b 12), .ref (b 13), .int 0, .int 0, .ref (b 16), .ref (b 17), .ref (b 18), .ref (b 19), .ref (b 20), .ref (b 21), .ref (b 22), .ref (b 23), .ref (b 24), .int 0, .ref (b 26), .ref (b 27), .ref (b 28), .ref (b 29), .ref (b 30), .ref (b 31), .ref (b 32), .int 0, .int 0, .ref (b 35), .ref (b 36), .ref (b 37), .ref (b 38), .ref (b 39), .ref (b 40), .int 0, .ref (b 42), .ref (b 43), .ref (b 44), .int 0, .ref (b 46), .ref (b 47), .int 0, .ref (b 49)]))]) (hS : va_S (fun q : Nat => s.heap.size ≤ q) s.heap H locs) (hl : lv_has ls 4 [(3, .int 0), (2, .ref (b 0)), (1, .ref (a 0)), (0, .ref sb)]) : W p l e room_1 s m #[Value.ref sb] below meth c H locs 85 4448 (lw_Z below #[Value.ref sb] s) (F0 m 502 ls []) := by
  obtain ⟨hx, hb, hr, hml, hown, hts, hX, hbl, hlocks, hgv⟩ := id C0
  have hw : ∀ w ∈ zz_all, w.before #[Value.ref sb] s = true := fun w h => hts w (zz_in_tbl h)
  have hown : s.vm.findClass RL = some m.cls := hown
  have hA : ∀ q : Nat, s.heap.size ≤ q → (fun q : Nat => s.heap.size ≤ q) q := fun _ h => h
  have hbA : ¬ (fun q : Nat => s.heap.size ≤ q) sb := Nat.not_le.mpr hbl
  refine lv_aload_n hx hb dL_law_502 rfl (lv_at hl 2 rfl) ?_
  refine lv_aload_n hx hb dL_law_503 rfl (lv_at hl 3 rfl) ?_
  refine lv_iload_n hx hb dL_law_504 rfl (lv_at hl 0 rfl) ?_
  refine lv_iconst (v := 1) hx hb dL_law_505 (by decide) ?_
  refine lv_iadd hx hb dL_law_506 ?_
  refine zz_seti 1 (by decide) ?_
  refine va_sld hx hb hX hbl hbA hS (by rw [hL6]; exact zz_vin (by decide)) dL_law_507 ?_
  refine lv_aload_n hx hb dL_law_508 rfl (lv_at hl 3 rfl) ?_
  refine lv_iload_n hx hb dL_law_509 rfl (lv_at hl 0 rfl) ?_
  refine lv_iconst (v := 2) hx hb dL_law_510 (by decide) ?_
  refine lv_iadd hx hb dL_law_511 ?_
  refine zz_seti 2 (by decide) ?_
  refine va_sld hx hb hX hbl hbA hS (by rw [hL6]; exact zz_vin (by decide)) dL_law_512 ?_
  have hPc := hP.sub (ws' := [(a 0, .inr (7, [.ref (a 1), .ref (a 10), .ref (a 23), .ref (a 24), .ref (a 26), .ref (a 29), .ref (a 34), .ref (a 43), .int 0, .int 0, .int 0, .int 0]))]) [0] rfl
  have hDc := hD.sub (ws' := [(a 0, .inr (7, [.ref (a 1), .ref (a 10), .ref (a 23), .ref (a 24), .ref (a 26), .ref (a 29), .ref (a 34), .ref (a 43), .int 0, .int 0, .int 0, .int 0]))]) [0] (by decide) rfl
  have hKc := hK.sub (tys' := []) [] rfl
  have hFc := zz_free0 hS hA
  refine va_calli (va_runV (As := [.int (xs (Int32.toNatClampNeg 1)), .int (xs (Int32.toNatClampNeg 2))]) (rest := []) ⟨hx, hb, hml, hown, hw⟩ (k_hire l dC dI a (xs (Int32.toNatClampNeg 1)) (xs (Int32.toNatClampNeg 2)) H.size) ⟨callB_of 2 hw (zz_good tw_340) rfl rfl rfl (hw _ tw_2) (hw _ tw_341) (by decide +kernel) ⟨Nat.le_of_ble_eq_true rfl, Nat.le_of_ble_eq_true rfl⟩, (hw _ tw_342), (hw _ tw_343)⟩ ⟨zz_blind, va_recv hKc hPc (ci := 7) (q0 := 0) rfl rfl, zz_pre hPc hKc hDc hN⟩ rfl rfl hl.1 rfl (lv_room (Nat.le_of_ble_eq_true rfl)) dL_law_513 ⟨Nat.le_of_ble_eq_true rfl, Nat.le_of_ble_eq_true rfl⟩) hS (fun q _ h => hFc q h) hFc (fun r_1 u_1 t H1 locs ht hvm e_1 hB hz1 hk1 hS => ?_)
  try dsimp only at e_1
  have hP := zz_keep hP hk1
  clear hk1 hB ht hvm
  generalize H1 = H at hP hS ⊢
  have hP : va_P (dC, dI) vwCl [(a 0, .inr (7, [.ref (a 1), .ref (a 10), .ref (a 23), .ref (a 24), .ref (a 26), .ref (a 29), .ref (a 34), .ref (a 43), .int 0, .int 0, .int 0, .int 0])), (b 0, .inr (8, [.ref (b 1), .int 0, .int 0, .int 0, .int 0, .int 0, .int 0, .int 0, .int (-1), .int (-1), .ref (b 11), .ref (b 12), .ref (b 13), .int 0, .int 0, .ref (b 16), .ref (b 17), .ref (b 18), .ref (b 19), .ref (b 20), .ref (b 21), .ref (b 22), .ref (b 23), .ref (b 24), .int 0, .ref (b 26), .ref (b 27), .ref (b 28), .ref (b 29), .ref (b 30), .ref (b 31), .ref (b 32), .int 0, .int 0, .ref (b 35), .ref (b 36), .ref (b 37), .ref (b 38), .ref (b 39), .ref (b 40), .int 0, .ref (b 42), .ref (b 43), .ref (b 44), .int 0, .ref (b 46), .ref (b 47), .int 0, .ref (b 49)]))] H := hP
  have hD : va_D (fun q : Nat => s.heap.size ≤ q) [(a 0, .inr (7, [.ref (a 1), .ref (a 10), .ref (a 23), .ref (a 24), .ref (a 26), .ref (a 29), .ref (a 34), .ref (a 43), .int 0, .int 0, .int 0, .int 0])), (b 0, .inr (8, [.ref (b 1), .int 0, .int 0, .int 0, .int 0, .int 0, .int 0, .int 0, .int (-1), .int (-1), .ref (b 11), .ref (b 12), .ref (b 13), .int 0, .int 0, .ref (b 16), .ref (b 17), .ref (b 18), .ref (b 19), .ref (b 20), .ref (b 21), .ref (b 22), .ref (b 23), .ref (b 24), .int 0, .ref (b 26), .ref (b 27), .ref (b 28), .ref (b 29), .ref (b 30), .ref (b 31), .ref (b 32), .int 0, .int 0, .ref (b 35), .ref (b 36), .ref (b 37), .ref (b 38), .ref (b 39), .ref (b 40), .int 0, .ref (b 42), .ref (b 43), .ref (b 44), .int 0, .ref (b 46), .ref (b 47), .int 0, .ref (b 49)]))] := hD
  refine lv_aload_n hx hb dL_law_516 rfl (lv_at hl 1 rfl) ?_
  refine lv_aload_n hx hb dL_law_517 rfl (lv_at hl 3 rfl) ?_
  refine lv_iload_n hx hb dL_law_518 rfl (lv_at hl 0 rfl) ?_
  refine lv_iconst (v := 1) hx hb dL_law_519 (by decide) ?_
  refine lv_iadd hx hb dL_law_520 ?_
  refine zz_seti 1 (by decide) ?_
  refine va_sld hx hb hX hbl hbA hS (by rw [hL6]; exact zz_vin (by decide)) dL_law_521 ?_
  refine lv_aload_n hx hb dL_law_522 rfl (lv_at hl 3 rfl) ?_
  refine lv_iload_n hx hb dL_law_523 rfl (lv_at hl 0 rfl) ?_
  refine lv_iconst (v := 2) hx hb dL_law_524 (by decide) ?_
  refine lv_iadd hx hb dL_law_525 ?_
  refine zz_seti 2 (by decide) ?_
  refine va_sld hx hb hX hbl hbA hS (by rw [hL6]; exact zz_vin (by decide)) dL_law_526 ?_
  have hPc := hP.sub (ws' := [(b 0, .inr (8, [.ref (b 1), .int 0, .int 0, .int 0, .int 0, .int 0, .int 0, .int 0, .int (-1), .int (-1), .ref (b 11), .ref (b 12), .ref (b 13), .int 0, .int 0, .ref (b 16), .ref (b 17), .ref (b 18), .ref (b 19), .ref (b 20), .ref (b 21), .ref (b 22), .ref (b 23), .ref (b 24), .int 0, .ref (b 26), .ref (b 27), .ref (b 28), .ref (b 29), .ref (b 30), .ref (b 31), .ref (b 32), .int 0, .int 0, .ref (b 35), .ref (b 36), .ref (b 37), .ref (b 38), .ref (b 39), .ref (b 40), .int 0, .ref (b 42), .ref (b 43), .ref (b 44), .int 0, .ref (b 46), .ref (b 47), .int 0, .ref (b 49)]))]) [1] rfl
  have hDc := hD.sub (ws' := [(b 0, .inr (8, [.ref (b 1), .int 0, .int 0, .int 0, .int 0, .int 0, .int 0, .int 0, .int (-1), .int (-1), .ref (b 11), .ref (b 12), .ref (b 13), .int 0, .int 0, .ref (b 16), .ref (b 17), .ref (b 18), .ref (b 19), .ref (b 20), .ref (b 21), .ref (b 22), .ref (b 23), .ref (b 24), .int 0, .ref (b 26), .ref (b 27), .ref (b 28), .ref (b 29), .ref (b 30), .ref (b 31), .ref (b 32), .int 0, .int 0, .ref (b 35), .ref (b 36), .ref (b 37), .ref (b 38), .ref (b 39), .ref (b 40), .int 0, .ref (b 42), .ref (b 43), .ref (b 44), .int 0, .ref (b 46), .ref (b 47), .int 0, .ref (b 49)]))]) [1] (by decide) rfl
  have hKc := hK.sub (tys' := []) [] rfl
  have hFc := zz_free0 hS hA
  refine va_calli (va_runV (As := [.int (xs (Int32.toNatClampNeg 1)), .int (xs (Int32.toNatClampNeg 2))]) (rest := [.int r_1]) ⟨hx, hb, hml, hown, hw⟩ (m_hire l dC dI b (xs (Int32.toNatClampNeg 1)) (xs (Int32.toNatClampNeg 2)) H.size) ⟨callB_of 2 hw (zz_good tw_344) rfl rfl rfl (hw _ tw_95) (hw _ tw_345) (by decide +kernel) ⟨Nat.le_of_ble_eq_true rfl, Nat.le_of_ble_eq_true rfl⟩, (hw _ tw_346), (hw _ tw_347)⟩ ⟨zz_blind, va_recv hKc hPc (ci := 8) (q0 := 0) rfl rfl, zz_pre hPc hKc hDc hN⟩ rfl rfl hl.1 rfl (lv_room (Nat.le_of_ble_eq_true rfl)) dL_law_527 ⟨Nat.le_of_ble_eq_true rfl, Nat.le_of_ble_eq_true rfl⟩) hS (fun q _ h => hFc q h) hFc (fun r_2 u_2 t H1 locs ht hvm e_2 hB hz1 hk1 hS => ?_)
  try dsimp only at e_2
  have hP := zz_keep hP hk1
  clear hk1 hB ht hvm
  generalize H1 = H at hP hS ⊢
  have hP : va_P (dC, dI) vwCl [(a 0, .inr (7, [.ref (a 1), .ref (a 10), .ref (a 23), .ref (a 24), .ref (a 26), .ref (a 29), .ref (a 34), .ref (a 43), .int 0, .int 0, .int 0, .int 0])), (b 0, .inr (8, [.ref (b 1), .int 0, .int 0, .int 0, .int 0, .int 0, .int 0, .int 0, .int (-1), .int (-1), .ref (b 11), .ref (b 12), .ref (b 13), .int 0, .int 0, .ref (b 16), .ref (b 17), .ref (b 18), .ref (b 19), .ref (b 20), .ref (b 21), .ref (b 22), .ref (b 23), .ref (b 24), .int 0, .ref (b 26), .ref (b 27), .ref (b 28), .ref (b 29), .ref (b 30), .ref (b 31), .ref (b 32), .int 0, .int 0, .ref (b 35), .ref (b 36), .ref (b 37), .ref (b 38), .ref (b 39), .ref (b 40), .int 0, .ref (b 42), .ref (b 43), .ref (b 44), .int 0, .ref (b 46), .ref (b 47), .int 0, .ref (b 49)]))] H := hP
  have hD : va_D (fun q : Nat => s.heap.size ≤ q) [(a 0, .inr (7, [.ref (a 1), .ref (a 10), .ref (a 23), .ref (a 24), .ref (a 26), .ref (a 29), .ref (a 34), .ref (a 43), .int 0, .int 0, .int 0, .int 0])), (b 0, .inr (8, [.ref (b 1), .int 0, .int 0, .int 0, .int 0, .int 0, .int 0, .int 0, .int (-1), .int (-1), .ref (b 11), .ref (b 12), .ref (b 13), .int 0, .int 0, .ref (b 16), .ref (b 17), .ref (b 18), .ref (b 19), .ref (b 20), .ref (b 21), .ref (b 22), .ref (b 23), .ref (b 24), .int 0, .ref (b 26), .ref (b 27), .ref (b 28), .ref (b 29), .ref (b 30), .ref (b 31), .ref (b 32), .int 0, .int 0, .ref (b 35), .ref (b 36), .ref (b 37), .ref (b 38), .ref (b 39), .ref (b 40), .int 0, .ref (b 42), .ref (b 43), .ref (b 44), .int 0, .ref (b 46), .ref (b 47), .int 0, .ref (b 49)]))] := hD
  refine lv_icmp_eq (tgt := 818) hx hb dL_law_530 (by decide) (fun _ => ?_) (fun c_3 => absurd c_3 (fun z9 => z9 (e_1.trans e_2.symm)))
  exact law_end l hL6 C0 hS (lv_sub hl [0, 3] rfl) (by decide) (by decide)

