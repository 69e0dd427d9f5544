theorem dX11_init_47 : decode cX11_init 47 = .ok (.newarray .int, 2) := by decide +kernel
theorem dX11_init_49 : decode cX11_init 49 = .ok (.putfield 25, 3) := by decide +kernel
theorem dX11_init_52 : decode cX11_init 52 = .ok (.aload_n 0, 1) := by decide +kernel
theorem dX11_init_53 : decode cX11_init 53 = .ok (.bipush 48, 2) := by decide +kernel
theorem dX11_init_55 : decode cX11_init 55 = .ok (.newarray .int, 2) := by decide +kernel
theorem dX11_init_57 : decode cX11_init 57 = .ok (.putfield 28, 3) := by decide +kernel
theorem dX11_init_60 : decode cX11_init 60 = .ok (.aload_n 0, 1) := by decide +kernel
theorem dX11_init_61 : decode cX11_init 61 = .ok (.bipush 54, 2) := by decide +kernel
theorem dX11_init_63 : decode cX11_init 63 = .ok (.newarray .int, 2) := by decide +kernel
theorem dX11_init_65 : decode cX11_init 65 = .ok (.dup, 1) := by decide +kernel
theorem dX11_init_66 : decode cX11_init 66 = .ok (.iconst 0, 1) := by decide +kernel
theorem dX11_init_67 : decode cX11_init 67 = .ok (.bipush 101, 2) := by decide +kernel
theorem dX11_init_69 : decode cX11_init 69 = .ok (.iastore, 1) := by decide +kernel
theorem dX11_init_70 : decode cX11_init 70 = .ok (.dup, 1) := by decide +kernel
theorem dX11_init_71 : decode cX11_init 71 = .ok (.iconst 1, 1) := by decide +kernel
theorem dX11_init_72 : decode cX11_init 72 = .ok (.bipush 110, 2) := by decide +kernel
theorem dX11_init_74 : decode cX11_init 74 = .ok (.iastore, 1) := by decide +kernel
theorem dX11_init_75 : decode cX11_init 75 = .ok (.dup, 1) := by decide +kernel
theorem dX11_init_76 : decode cX11_init 76 = .ok (.iconst 2, 1) := by decide +kernel
theorem dX11_init_77 : decode cX11_init 77 = .ok (.bipush 116, 2) := by decide +kernel
theorem dX11_init_79 : decode cX11_init 79 = .ok (.iastore, 1) := by decide +kernel
theorem dX11_init_80 : decode cX11_init 80 = .ok (.dup, 1) := by decide +kernel
theorem dX11_init_81 : decode cX11_init 81 = .ok (.iconst 3, 1) := by decide +kernel
theorem dX11_init_82 : decode cX11_init 82 = .ok (.bipush 101, 2) := by decide +kernel
theorem dX11_init_84 : decode cX11_init 84 = .ok (.iastore, 1) := by decide +kernel
theorem dX11_init_85 : decode cX11_init 85 = .ok (.dup, 1) := by decide +kernel
theorem dX11_init_86 : decode cX11_init 86 = .ok (.iconst 4, 1) := by decide +kernel
theorem dX11_init_87 : decode cX11_init 87 = .ok (.bipush 114, 2) := by decide +kernel
theorem dX11_init_89 : decode cX11_init 89 = .ok (.iastore, 1) := by decide +kernel
theorem dX11_init_90 : decode cX11_init 90 = .ok (.dup, 1) := by decide +kernel
theorem dX11_init_91 : decode cX11_init 91 = .ok (.iconst 5, 1) := by decide +kernel
theorem dX11_init_92 : decode cX11_init 92 = .ok (.iconst 0, 1) := by decide +kernel
theorem dX11_init_93 : decode cX11_init 93 = .ok (.iastore, 1) := by decide +kernel
theorem dX11_init_94 : decode cX11_init 94 = .ok (.dup, 1) := by decide +kernel
theorem dX11_init_95 : decode cX11_init 95 = .ok (.bipush 6, 2) := by decide +kernel
theorem dX11_init_97 : decode cX11_init 97 = .ok (.bipush 108, 2) := by decide +kernel
theorem dX11_init_99 : decode cX11_init 99 = .ok (.iastore, 1) := by decide +kernel
theorem dX11_init_100 : decode cX11_init 100 = .ok (.dup, 1) := by decide +kernel
theorem dX11_init_101 : decode cX11_init 101 = .ok (.bipush 7, 2) := by decide +kernel
theorem dX11_init_103 : decode cX11_init 103 = .ok (.bipush 101, 2) := by decide +kernel
theorem dX11_init_105 : decode cX11_init 105 = .ok (.iastore, 1) := by decide +kernel
theorem dX11_init_106 : decode cX11_init 106 = .ok (.dup, 1) := by decide +kernel
theorem dX11_init_107 : decode cX11_init 107 = .ok (.bipush 8, 2) := by decide +kernel
theorem dX11_init_109 : decode cX11_init 109 = .ok (.bipush 97, 2) := by decide +kernel
theorem dX11_init_111 : decode cX11_init 111 = .ok (.iastore, 1) := by decide +kernel
theorem dX11_init_112 : decode cX11_init 112 = .ok (.dup, 1) := by decide +kernel
theorem dX11_init_113 : decode cX11_init 113 = .ok (.bipush 9, 2) := by decide +kernel
theorem dX11_init_115 : decode cX11_init 115 = .ok (.bipush 118, 2) := by decide +kernel
theorem dX11_init_117 : decode cX11_init 117 = .ok (.iastore, 1) := by decide +kernel
theorem dX11_init_118 : decode cX11_init 118 = .ok (.dup, 1) := by decide +kernel
theorem dX11_init_119 : decode cX11_init 119 = .ok (.bipush 10, 2) := by decide +kernel
theorem dX11_init_121 : decode cX11_init 121 = .ok (.bipush 101, 2) := by decide +kernel
theorem dX11_init_123 : decode cX11_init 123 = .ok (.iastore, 1) := by decide +kernel
theorem dX11_init_124 : decode cX11_init 124 = .ok (.dup, 1) := by decide +kernel
theorem dX11_init_125 : decode cX11_init 125 = .ok (.bipush 11, 2) := by decide +kernel
theorem dX11_init_127 : decode cX11_init 127 = .ok (.iconst 0, 1) := by decide +kernel
theorem dX11_init_128 : decode cX11_init 128 = .ok (.iastore, 1) := by decide +kernel
theorem dX11_init_129 : decode cX11_init 129 = .ok (.dup, 1) := by decide +kernel
theorem dX11_init_130 : decode cX11_init 130 = .ok (.bipush 12, 2) := by decide +kernel
theorem dX11_init_132 : decode cX11_init 132 = .ok (.bipush 119, 2) := by decide +kernel
theorem dX11_init_134 : decode cX11_init 134 = .ok (.iastore, 1) := by decide +kernel
theorem dX11_init_135 : decode cX11_init 135 = .ok (.dup, 1) := by decide +kernel
theorem dX11_init_136 : decode cX11_init 136 = .ok (.bipush 13, 2) := by decide +kernel
theorem dX11_init_138 : decode cX11_init 138 = .ok (.bipush 97, 2) := by decide +kernel
theorem dX11_init_140 : decode cX11_init 140 = .ok (.iastore, 1) := by decide +kernel
theorem dX11_init_141 : decode cX11_init 141 = .ok (.dup, 1) := by decide +kernel
theorem dX11_init_142 : decode cX11_init 142 = .ok (.bipush 14, 2) := by decide +kernel
theorem dX11_init_144 : decode cX11_init 144 = .ok (.bipush 105, 2) := by decide +kernel
theorem dX11_init_146 : decode cX11_init 146 = .ok (.iastore, 1) := by decide +kernel
theorem dX11_init_147 : decode cX11_init 147 = .ok (.dup, 1) := by decide +kernel
theorem dX11_init_148 : decode cX11_init 148 = .ok (.bipush 15, 2) := by decide +kernel
theorem dX11_init_150 : decode cX11_init 150 = .ok (.bipush 116, 2) := by decide +kernel
theorem dX11_init_152 : decode cX11_init 152 = .ok (.iastore, 1) := by decide +kernel
theorem dX11_init_153 : decode cX11_init 153 = .ok (.dup, 1) := by decide +kernel
theorem dX11_init_154 : decode cX11_init 154 = .ok (.bipush 16, 2) := by decide +kernel
theorem dX11_init_156 : decode cX11_init 156 = .ok (.iconst 0, 1) := by decide +kernel
theorem dX11_init_157 : decode cX11_init 157 = .ok (.iastore, 1) := by decide +kernel
theorem dX11_init_158 : decode cX11_init 158 = .ok (.dup, 1) := by decide +kernel
theorem dX11_init_159 : decode cX11_init 159 = .ok (.bipush 17, 2) := by decide +kernel
theorem dX11_init_161 : decode cX11_init 161 = .ok (.iconst 0, 1) := by decide +kernel
theorem dX11_init_162 : decode cX11_init 162 = .ok (.iastore, 1) := by decide +kernel
theorem dX11_init_163 : decode cX11_init 163 = .ok (.dup, 1) := by decide +kernel
theorem dX11_init_164 : decode cX11_init 164 = .ok (.bipush 18, 2) := by decide +kernel
theorem dX11_init_166 : decode cX11_init 166 = .ok (.bipush 110, 2) := by decide +kernel
theorem dX11_init_168 : decode cX11_init 168 = .ok (.iastore, 1) := by decide +kernel
theorem dX11_init_169 : decode cX11_init 169 = .ok (.dup, 1) := by decide +kernel
theorem dX11_init_170 : decode cX11_init 170 = .ok (.bipush 19, 2) := by decide +kernel
theorem dX11_init_172 : decode cX11_init 172 = .ok (.bipush 111, 2) := by decide +kernel
theorem dX11_init_174 : decode cX11_init 174 = .ok (.iastore, 1) := by decide +kernel
theorem dX11_init_175 : decode cX11_init 175 = .ok (.dup, 1) := by decide +kernel
theorem dX11_init_176 : decode cX11_init 176 = .ok (.bipush 20, 2) := by decide +kernel
theorem dX11_init_178 : decode cX11_init 178 = .ok (.bipush 116, 2) := by decide +kernel
theorem dX11_init_180 : decode cX11_init 180 = .ok (.iastore, 1) := by decide +kernel
theorem dX11_init_181 : decode cX11_init 181 = .ok (.dup, 1) := by decide +kernel
theorem dX11_init_182 : decode cX11_init 182 = .ok (.bipush 21, 2) := by decide +kernel
theorem dX11_init_184 : decode cX11_init 184 = .ok (.bipush 105, 2) := by decide +kernel
theorem dX11_init_186 : decode cX11_init 186 = .ok (.iastore, 1) := by decide +kernel
theorem dX11_init_187 : decode cX11_init 187 = .ok (.dup, 1) := by decide +kernel
theorem dX11_init_188 : decode cX11_init 188 = .ok (.bipush 22, 2) := by decide +kernel
theorem dX11_init_190 : decode cX11_init 190 = .ok (.bipush 102, 2) := by decide +kernel
theorem dX11_init_192 : decode cX11_init 192 = .ok (.iastore, 1) := by decide +kernel
theorem dX11_init_193 : decode cX11_init 193 = .ok (.dup, 1) := by decide +kernel
theorem dX11_init_194 : decode cX11_init 194 = .ok (.bipush 23, 2) := by decide +kernel
theorem dX11_init_196 : decode cX11_init 196 = .ok (.bipush 121, 2) := by decide +kernel
theorem dX11_init_198 : decode cX11_init 198 = .ok (.iastore, 1) := by decide +kernel
theorem dX11_init_199 : decode cX11_init 199 = .ok (.dup, 1) := by decide +kernel
theorem dX11_init_200 : decode cX11_init 200 = .ok (.bipush 24, 2) := by decide +kernel
theorem dX11_init_202 : decode cX11_init 202 = .ok (.bipush 97, 2) := by decide +kernel
theorem dX11_init_204 : decode cX11_init 204 = .ok (.iastore, 1) := by decide +kernel
theorem dX11_init_205 : decode cX11_init 205 = .ok (.dup, 1) := by decide +kernel
theorem dX11_init_206 : decode cX11_init 206 = .ok (.bipush 25, 2) := by decide +kernel
theorem dX11_init_208 : decode cX11_init 208 = .ok (.bipush 108, 2) := by decide +kernel
theorem dX11_init_210 : decode cX11_init 210 = .ok (.iastore, 1) := by decide +kernel
theorem dX11_init_211 : decode cX11_init 211 = .ok (.dup, 1) := by decide +kernel
theorem dX11_init_212 : decode cX11_init 212 = .ok (.bipush 26, 2) := by decide +kernel
theorem dX11_init_214 : decode cX11_init 214 = .ok (.bipush 108, 2) := by decide +kernel
theorem dX11_init_216 : decode cX11_init 216 = .ok (.iastore, 1) := by decide +kernel
theorem dX11_init_217 : decode cX11_init 217 = .ok (.dup, 1) := by decide +kernel
theorem dX11_init_218 : decode cX11_init 218 = .ok (.bipush 27, 2) := by decide +kernel
theorem dX11_init_220 : decode cX11_init 220 = .ok (.iconst 0, 1) := by decide +kernel
theorem dX11_init_221 : decode cX11_init 221 = .ok (.iastore, 1) := by decide +kernel
theorem dX11_init_222 : decode cX11_init 222 = .ok (.dup, 1) := by decide +kernel
theorem dX11_init_223 : decode cX11_init 223 = .ok (.bipush 28, 2) := by decide +kernel
theorem dX11_init_225 : decode cX11_init 225 = .ok (.iconst 0, 1) := by decide +kernel
theorem dX11_init_226 : decode cX11_init 226 = .ok (.iastore, 1) := by decide +kernel
theorem dX11_init_227 : decode cX11_init 227 = .ok (.dup, 1) := by decide +kernel
theorem dX11_init_228 : decode cX11_init 228 = .ok (.bipush 29, 2) := by decide +kernel
theorem dX11_init_230 : decode cX11_init 230 = .ok (.iconst 0, 1) := by decide +kernel
theorem dX11_init_231 : decode cX11_init 231 = .ok (.iastore, 1) := by decide +kernel
theorem dX11_init_232 : decode cX11_init 232 = .ok (.dup, 1) := by decide +kernel
theorem dX11_init_233 : decode cX11_init 233 = .ok (.bipush 30, 2) := by decide +kernel
theorem dX11_init_235 : decode cX11_init 235 = .ok (.bipush 97, 2) := by decide +kernel
theorem dX11_init_237 : decode cX11_init 237 = .ok (.iastore, 1) := by decide +kernel
theorem dX11_init_238 : decode cX11_init 238 = .ok (.dup, 1) := by decide +kernel
theorem dX11_init_239 : decode cX11_init 239 = .ok (.bipush 31, 2) := by decide +kernel
theorem dX11_init_241 : decode cX11_init 241 = .ok (.bipush 100, 2) := by decide +kernel
theorem dX11_init_243 : decode cX11_init 243 = .ok (.iastore, 1) := by decide +kernel
theorem dX11_init_244 : decode cX11_init 244 = .ok (.dup, 1) := by decide +kernel
theorem dX11_init_245 : decode cX11_init 245 = .ok (.bipush 32, 2) := by decide +kernel
theorem dX11_init_247 : decode cX11_init 247 = .ok (.bipush 100, 2) := by decide +kernel
theorem dX11_init_249 : decode cX11_init 249 = .ok (.iastore, 1) := by decide +kernel
theorem dX11_init_250 : decode cX11_init 250 = .ok (.dup, 1) := by decide +kernel
theorem dX11_init_251 : decode cX11_init 251 = .ok (.bipush 33, 2) := by decide +kernel
theorem dX11_init_253 : decode cX11_init 253 = .ok (.iconst 0, 1) := by decide +kernel
theorem dX11_init_254 : decode cX11_init 254 = .ok (.iastore, 1) := by decide +kernel
theorem dX11_init_255 : decode cX11_init 255 = .ok (.dup, 1) := by decide +kernel
theorem dX11_init_256 : decode cX11_init 256 = .ok (.bipush 34, 2) := by decide +kernel
theorem dX11_init_258 : decode cX11_init 258 = .ok (.iconst 0, 1) := by decide +kernel
theorem dX11_init_259 : decode cX11_init 259 = .ok (.iastore, 1) := by decide +kernel
theorem dX11_init_260 : decode cX11_init 260 = .ok (.dup, 1) := by decide +kernel
theorem dX11_init_261 : decode cX11_init 261 = .ok (.bipush 35, 2) := by decide +kernel
theorem dX11_init_263 : decode cX11_init 263 = .ok (.iconst 0, 1) := by decide +kernel
theorem dX11_init_264 : decode cX11_init 264 = .ok (.iastore, 1) := by decide +kernel
theorem dX11_init_265 : decode cX11_init 265 = .ok (.dup, 1) := by decide +kernel
theorem dX11_init_266 : decode cX11_init 266 = .ok (.bipush 36, 2) := by decide +kernel
theorem dX11_init_268 : decode cX11_init 268 = .ok (.bipush 115, 2) := by decide +kernel
theorem dX11_init_270 : decode cX11_init 270 = .ok (.iastore, 1) := by decide +kernel
theorem dX11_init_271 : decode cX11_init 271 = .ok (.dup, 1) := by decide +kernel
theorem dX11_init_272 : decode cX11_init 272 = .ok (.bipush 37, 2) := by decide +kernel
theorem dX11_init_274 : decode cX11_init 274 = .ok (.bipush 101, 2) := by decide +kernel
theorem dX11_init_276 : decode cX11_init 276 = .ok (.iastore, 1) := by decide +kernel
theorem dX11_init_277 : decode cX11_init 277 = .ok (.dup, 1) := by decide +kernel
theorem dX11_init_278 : decode cX11_init 278 = .ok (.bipush 38, 2) := by decide +kernel
theorem dX11_init_280 : decode cX11_init 280 = .ok (.bipush 116, 2) := by decide +kernel
theorem dX11_init_282 : decode cX11_init 282 = .ok (.iastore, 1) := by decide +kernel
theorem dX11_init_283 : decode cX11_init 283 = .ok (.dup, 1) := by decide +kernel
theorem dX11_init_284 : decode cX11_init 284 = .ok (.bipush 39, 2) := by decide +kernel
theorem dX11_init_286 : decode cX11_init 286 = .ok (.iconst 0, 1) := by decide +kernel
theorem dX11_init_287 : decode cX11_init 287 = .ok (.iastore, 1) := by decide +kernel
theorem dX11_init_288 : decode cX11_init 288 = .ok (.dup, 1) := by decide +kernel
theorem dX11_init_289 : decode cX11_init 289 = .ok (.bipush 40, 2) := by decide +kernel
theorem dX11_init_291 : decode cX11_init 291 = .ok (.iconst 0, 1) := by decide +kernel
theorem dX11_init_292 : decode cX11_init 292 = .ok (.iastore, 1) := by decide +kernel
theorem dX11_init_293 : decode cX11_init 293 = .ok (.dup, 1) := by decide +kernel
theorem dX11_init_294 : decode cX11_init 294 = .ok (.bipush 41, 2) := by decide +kernel
theorem dX11_init_296 : decode cX11_init 296 = .ok (.iconst 0, 1) := by decide +kernel
theorem dX11_init_297 : decode cX11_init 297 = .ok (.iastore, 1) := by decide +kernel
theorem dX11_init_298 : decode cX11_init 298 = .ok (.dup, 1) := by decide +kernel
theorem dX11_init_299 : decode cX11_init 299 = .ok (.bipush 42, 2) := by decide +kernel
theorem dX11_init_301 : decode cX11_init 301 = .ok (.bipush 105, 2) := by decide +kernel
theorem dX11_init_303 : decode cX11_init 303 = .ok (.iastore, 1) := by decide +kernel
theorem dX11_init_304 : decode cX11_init 304 = .ok (.dup, 1) := by decide +kernel
theorem dX11_init_305 : decode cX11_init 305 = .ok (.bipush 43, 2) := by decide +kernel
theorem dX11_init_307 : decode cX11_init 307 = .ok (.bipush 102, 2) := by decide +kernel
theorem dX11_init_309 : decode cX11_init 309 = .ok (.iastore, 1) := by decide +kernel
theorem dX11_init_310 : decode cX11_init 310 = .ok (.dup, 1) := by decide +kernel
theorem dX11_init_311 : decode cX11_init 311 = .ok (.bipush 44, 2) := by decide +kernel
theorem dX11_init_313 : decode cX11_init 313 = .ok (.iconst 0, 1) := by decide +kernel
theorem dX11_init_314 : decode cX11_init 314 = .ok (.iastore, 1) := by decide +kernel
theorem dX11_init_315 : decode cX11_init 315 = .ok (.dup, 1) := by decide +kernel
theorem dX11_init_316 : decode cX11_init 316 = .ok (.bipush 45, 2) := by decide +kernel
theorem dX11_init_318 : decode cX11_init 318 = .ok (.iconst 0, 1) := by decide +kernel
theorem dX11_init_319 : decode cX11_init 319 = .ok (.iastore, 1) := by decide +kernel
theorem dX11_init_320 : decode cX11_init 320 = .ok (.dup, 1) := by decide +kernel
theorem dX11_init_321 : decode cX11_init 321 = .ok (.bipush 46, 2) := by decide +kernel
theorem dX11_init_323 : decode cX11_init 323 = .ok (.iconst 0, 1) := by decide +kernel
theorem dX11_init_324 : decode cX11_init 324 = .ok (.iastore, 1) := by decide +kernel
theorem dX11_init_325 : decode cX11_init 325 = .ok (.dup, 1) := by decide +kernel
theorem dX11_init_326 : decode cX11_init 326 = .ok (.bipush 47, 2) := by decide +kernel
theorem dX11_init_328 : decode cX11_init 328 = .ok (.iconst 0, 1) := by decide +kernel
theorem dX11_init_329 : decode cX11_init 329 = .ok (.iastore, 1) := by decide +kernel
theorem dX11_init_330 : decode cX11_init 330 = .ok (.dup, 1) := by decide +kernel
theorem dX11_init_331 : decode cX11_init 331 = .ok (.bipush 48, 2) := by decide +kernel
theorem dX11_init_333 : decode cX11_init 333 = .ok (.bipush 106, 2) := by decide +kernel
theorem dX11_init_335 : decode cX11_init 335 = .ok (.iastore, 1) := by decide +kernel
theorem dX11_init_336 : decode cX11_init 336 = .ok (.dup, 1) := by decide +kernel
theorem dX11_init_337 : decode cX11_init 337 = .ok (.bipush 49, 2) := by decide +kernel
theorem dX11_init_339 : decode cX11_init 339 = .ok (.bipush 117, 2) := by decide +kernel
theorem dX11_init_341 : decode cX11_init 341 = .ok (.iastore, 1) := by decide +kernel
theorem dX11_init_342 : decode cX11_init 342 = .ok (.dup, 1) := by decide +kernel
theorem dX11_init_343 : decode cX11_init 343 = .ok (.bipush 50, 2) := by decide +kernel
theorem dX11_init_345 : decode cX11_init 345 = .ok (.bipush 109, 2) := by decide +kernel
theorem dX11_init_347 : decode cX11_init 347 = .ok (.iastore, 1) := by decide +kernel
theorem dX11_init_348 : decode cX11_init 348 = .ok (.dup, 1) := by decide +kernel
theorem dX11_init_349 : decode cX11_init 349 = .ok (.bipush 51, 2) := by decide +kernel
theorem dX11_init_351 : decode cX11_init 351 = .ok (.bipush 112, 2) := by decide +kernel
theorem dX11_init_353 : decode cX11_init 353 = .ok (.iastore, 1) := by decide +kernel
theorem dX11_init_354 : decode cX11_init 354 = .ok (.dup, 1) := by decide +kernel
theorem dX11_init_355 : decode cX11_init 355 = .ok (.bipush 52, 2) := by decide +kernel
theorem dX11_init_357 : decode cX11_init 357 = .ok (.iconst 0, 1) := by decide +kernel
theorem dX11_init_358 : decode cX11_init 358 = .ok (.iastore, 1) := by decide +kernel
theorem dX11_init_359 : decode cX11_init 359 = .ok (.dup, 1) := by decide +kernel
theorem dX11_init_360 : decode cX11_init 360 = .ok (.bipush 53, 2) := by decide +kernel
theorem dX11_init_362 : decode cX11_init 362 = .ok (.iconst 0, 1) := by decide +kernel
theorem dX11_init_363 : decode cX11_init 363 = .ok (.iastore, 1) := by decide +kernel
theorem dX11_init_364 : decode cX11_init 364 = .ok (.putfield 31, 3) := by decide +kernel
theorem dX11_init_367 : decode cX11_init 367 = .ok (.aload_n 0, 1) := by decide +kernel
theorem dX11_init_368 : decode cX11_init 368 = .ok (.iconst 3, 1) := by decide +kernel
theorem dX11_init_369 : decode cX11_init 369 = .ok (.newarray .int, 2) := by decide +kernel
theorem dX11_init_371 : decode cX11_init 371 = .ok (.putfield 34, 3) := by decide +kernel
theorem dX11_init_374 : decode cX11_init 374 = .ok (.aload_n 0, 1) := by decide +kernel
theorem dX11_init_375 : decode cX11_init 375 = .ok (.iconst 3, 1) := by decide +kernel
theorem dX11_init_376 : decode cX11_init 376 = .ok (.newarray .int, 2) := by decide +kernel
theorem dX11_init_378 : decode cX11_init 378 = .ok (.putfield 37, 3) := by decide +kernel
theorem dX11_init_381 : decode cX11_init 381 = .ok (.aload_n 0, 1) := by decide +kernel
theorem dX11_init_382 : decode cX11_init 382 = .ok (.sipush 31200, 3) := by decide +kernel
theorem dX11_init_385 : decode cX11_init 385 = .ok (.newarray .int, 2) := by decide +kernel
theorem dX11_init_387 : decode cX11_init 387 = .ok (.putfield 40, 3) := by decide +kernel
theorem dX11_init_390 : decode cX11_init 390 = .ok (.aload_n 0, 1) := by decide +kernel
theorem dX11_init_391 : decode cX11_init 391 = .ok (.sipush 600, 3) := by decide +kernel
theorem dX11_init_394 : decode cX11_init 394 = .ok (.newarray .int, 2) := by decide +kernel
theorem dX11_init_396 : decode cX11_init 396 = .ok (.putfield 43, 3) := by decide +kernel
theorem dX11_init_399 : decode cX11_init 399 = .ok (.aload_n 0, 1) := by decide +kernel
theorem dX11_init_400 : decode cX11_init 400 = .ok (.sipush 600, 3) := by decide +kernel
theorem dX11_init_403 : decode cX11_init 403 = .ok (.newarray .int, 2) := by decide +kernel
theorem dX11_init_405 : decode cX11_init 405 = .ok (.putfield 46, 3) := by decide +kernel
theorem dX11_init_408 : decode cX11_init 408 = .ok (.aload_n 0, 1) := by decide +kernel
theorem dX11_init_409 : decode cX11_init 409 = .ok (.sipush 600, 3) := by decide +kernel
theorem dX11_init_412 : decode cX11_init 412 = .ok (.newarray .int, 2) := by decide +kernel
theorem dX11_init_414 : decode cX11_init 414 = .ok (.putfield 49, 3) := by decide +kernel
theorem dX11_init_417 : decode cX11_init 417 = .ok (.aload_n 0, 1) := by decide +kernel
theorem dX11_init_418 : decode cX11_init 418 = .ok (.sipush 2048, 3) := by decide +kernel
theorem dX11_init_421 : decode cX11_init 421 = .ok (.newarray .int, 2) := by decide +kernel
theorem dX11_init_423 : decode cX11_init 423 = .ok (.putfield 52, 3) := by decide +kernel
theorem dX11_init_426 : decode cX11_init 426 = .ok (.aload_n 0, 1) := by decide +kernel
theorem dX11_init_427 : decode cX11_init 427 = .ok (.bipush 12, 2) := by decide +kernel
theorem dX11_init_429 : decode cX11_init 429 = .ok (.newarray .int, 2) := by decide +kernel
theorem dX11_init_431 : decode cX11_init 431 = .ok (.putfield 55, 3) := by decide +kernel
theorem dX11_init_434 : decode cX11_init 434 = .ok (.aload_n 0, 1) := by decide +kernel
theorem dX11_init_435 : decode cX11_init 435 = .ok (.iconst 4, 1) := by decide +kernel
theorem dX11_init_436 : decode cX11_init 436 = .ok (.newarray .int, 2) := by decide +kernel
theorem dX11_init_438 : decode cX11_init 438 = .ok (.dup, 1) := by decide +kernel
theorem dX11_init_439 : decode cX11_init 439 = .ok (.iconst 0, 1) := by decide +kernel
theorem dX11_init_440 : decode cX11_init 440 = .ok (.iconst (-1), 1) := by decide +kernel
theorem dX11_init_441 : decode cX11_init 441 = .ok (.iastore, 1) := by decide +kernel
theorem dX11_init_442 : decode cX11_init 442 = .ok (.dup, 1) := by decide +kernel
theorem dX11_init_443 : decode cX11_init 443 = .ok (.iconst 1, 1) := by decide +kernel
theorem dX11_init_444 : decode cX11_init 444 = .ok (.iconst (-1), 1) := by decide +kernel
theorem dX11_init_445 : decode cX11_init 445 = .ok (.iastore, 1) := by decide +kernel
theorem dX11_init_446 : decode cX11_init 446 = .ok (.dup, 1) := by decide +kernel
theorem dX11_init_447 : decode cX11_init 447 = .ok (.iconst 2, 1) := by decide +kernel
theorem dX11_init_448 : decode cX11_init 448 = .ok (.iconst (-1), 1) := by decide +kernel
theorem dX11_init_449 : decode cX11_init 449 = .ok (.iastore, 1) := by decide +kernel
theorem dX11_init_450 : decode cX11_init 450 = .ok (.dup, 1) := by decide +kernel
theorem dX11_init_451 : decode cX11_init 451 = .ok (.iconst 3, 1) := by decide +kernel
theorem dX11_init_452 : decode cX11_init 452 = .ok (.iconst (-1), 1) := by decide +kernel
theorem dX11_init_453 : decode cX11_init 453 = .ok (.iastore, 1) := by decide +kernel
theorem dX11_init_454 : decode cX11_init 454 = .ok (.putfield 58, 3) := by decide +kernel
theorem dX11_init_457 : decode cX11_init 457 = .ok (.aload_n 0, 1) := by decide +kernel
theorem dX11_init_458 : decode cX11_init 458 = .ok (.sipush 160, 3) := by decide +kernel
theorem dX11_init_461 : decode cX11_init 461 = .ok (.newarray .int, 2) := by decide +kernel
theorem dX11_init_463 : decode cX11_init 463 = .ok (.putfield 61, 3) := by decide +kernel
theorem dX11_init_466 : decode cX11_init 466 = .ok (.aload_n 0, 1) := by decide +kernel
theorem dX11_init_467 : decode cX11_init 467 = .ok (.getfield 9, 3) := by decide +kernel
theorem dX11_init_470 : decode cX11_init 470 = .ok (.bipush 56, 2) := by decide +kernel
theorem dX11_init_472 : decode cX11_init 472 = .ok (.bipush (-5), 2) := by decide +kernel
theorem dX11_init_474 : decode cX11_init 474 = .ok (.iastore, 1) := by decide +kernel
theorem dX11_init_475 : decode cX11_init 475 = .ok (.return_, 1) := by decide +kernel
theorem dX11_isCell_0 : decode cX11_isCell 0 = .ok (.iload_n 0, 1) := by decide +kernel
theorem dX11_isCell_1 : decode cX11_isCell 1 = .ok (.i2l, 1) := by decide +kernel
theorem dX11_isCell_2 : decode cX11_isCell 2 = .ok (.lconst 0, 1) := by decide +kernel
theorem dX11_isCell_3 : decode cX11_isCell 3 = .ok (.ldc2_w 70, 3) := by decide +kernel
theorem dX11_isCell_6 : decode cX11_isCell 6 = .ok (.invokestatic 64, 3) := by decide +kernel
theorem dX11_isCell_9 : decode cX11_isCell 9 = .ok (.ireturn, 1) := by decide +kernel
theorem dX11_isLike_0 : decode cX11_isLike 0 = .ok (.iconst 1, 1) := by decide +kernel
theorem dX11_isLike_1 : decode cX11_isLike 1 = .ok (.istore_n 2, 1) := by decide +kernel
theorem dX11_isLike_2 : decode cX11_isLike 2 = .ok (.iconst 0, 1) := by decide +kernel
theorem dX11_isLike_3 : decode cX11_isLike 3 = .ok (.istore_n 3, 1) := by decide +kernel
theorem dX11_isLike_4 : decode cX11_isLike 4 = .ok (.iload_n 3, 1) := by decide +kernel
theorem dX11_isLike_5 : decode cX11_isLike 5 = .ok (.bipush 52, 2) := by decide +kernel
theorem dX11_isLike_7 : decode cX11_isLike 7 = .ok (.if_icmp .ge 39, 3) := by decide +kernel
theorem dX11_isLike_10 : decode cX11_isLike 10 = .ok (.iload_n 2, 1) := by decide +kernel
theorem dX11_isLike_11 : decode cX11_isLike 11 = .ok (.ifCond .eq 35, 3) := by decide +kernel
theorem dX11_isLike_14 : decode cX11_isLike 14 = .ok (.aload_n 0, 1) := by decide +kernel
theorem dX11_isLike_15 : decode cX11_isLike 15 = .ok (.getfield 40, 3) := by decide +kernel
theorem dX11_isLike_18 : decode cX11_isLike 18 = .ok (.bipush 52, 2) := by decide +kernel
theorem dX11_isLike_20 : decode cX11_isLike 20 = .ok (.iload_n 1, 1) := by decide +kernel
theorem dX11_isLike_21 : decode cX11_isLike 21 = .ok (.imul, 1) := by decide +kernel
theorem dX11_isLike_22 : decode cX11_isLike 22 = .ok (.iload_n 3, 1) := by decide +kernel
theorem dX11_isLike_23 : decode cX11_isLike 23 = .ok (.iadd, 1) := by decide +kernel
theorem dX11_isLike_24 : decode cX11_isLike 24 = .ok (.iaload, 1) := by decide +kernel
theorem dX11_isLike_25 : decode cX11_isLike 25 = .ok (.aload_n 0, 1) := by decide +kernel
theorem dX11_isLike_26 : decode cX11_isLike 26 = .ok (.getfield 16, 3) := by decide +kernel
theorem dX11_isLike_29 : decode cX11_isLike 29 = .ok (.iload_n 3, 1) := by decide +kernel
theorem dX11_isLike_30 : decode cX11_isLike 30 = .ok (.iaload, 1) := by decide +kernel
theorem dX11_isLike_31 : decode cX11_isLike 31 = .ok (.if_icmp .ne 7, 3) := by decide +kernel
theorem dX11_isLike_34 : decode cX11_isLike 34 = .ok (.iconst 1, 1) := by decide +kernel
theorem dX11_isLike_35 : decode cX11_isLike 35 = .ok (.goto 4, 3) := by decide +kernel
theorem dX11_isLike_38 : decode cX11_isLike 38 = .ok (.iconst 0, 1) := by decide +kernel
theorem dX11_isLike_39 : decode cX11_isLike 39 = .ok (.istore_n 2, 1) := by decide +kernel
theorem dX11_isLike_40 : decode cX11_isLike 40 = .ok (.iinc 3 1, 3) := by decide +kernel
theorem dX11_isLike_43 : decode cX11_isLike 43 = .ok (.goto (-39), 3) := by decide +kernel
theorem dX11_isLike_46 : decode cX11_isLike 46 = .ok (.iload_n 2, 1) := by decide +kernel
theorem dX11_isLike_47 : decode cX11_isLike 47 = .ok (.ireturn, 1) := by decide +kernel
theorem dX11_isList_0 : decode cX11_isList 0 = .ok (.iload_n 0, 1) := by decide +kernel
theorem dX11_isList_1 : decode cX11_isList 1 = .ok (.i2l, 1) := by decide +kernel
theorem dX11_isList_2 : decode cX11_isList 2 = .ok (.lconst 0, 1) := by decide +kernel
theorem dX11_isList_3 : decode cX11_isList 3 = .ok (.ldc2_w 70, 3) := by decide +kernel
theorem dX11_isList_6 : decode cX11_isList 6 = .ok (.invokestatic 64, 3) := by decide +kernel
theorem dX11_isList_9 : decode cX11_isList 9 = .ok (.ireturn, 1) := by decide +kernel
theorem dX11_isMonitor_0 : decode cX11_isMonitor 0 = .ok (.iload_n 0, 1) := by decide +kernel
theorem dX11_isMonitor_1 : decode cX11_isMonitor 1 = .ok (.i2l, 1) := by decide +kernel
theorem dX11_isMonitor_2 : decode cX11_isMonitor 2 = .ok (.lconst 0, 1) := by decide +kernel
theorem dX11_isMonitor_3 : decode cX11_isMonitor 3 = .ok (.ldc2_w 68, 3) := by decide +kernel
theorem dX11_isMonitor_6 : decode cX11_isMonitor 6 = .ok (.invokestatic 64, 3) := by decide +kernel
theorem dX11_isMonitor_9 : decode cX11_isMonitor 9 = .ok (.ireturn, 1) := by decide +kernel
theorem dX11_isNested_0 : decode cX11_isNested 0 = .ok (.iconst 0, 1) := by decide +kernel
theorem dX11_isNested_1 : decode cX11_isNested 1 = .ok (.istore_n 1, 1) := by decide +kernel
theorem dX11_isNested_2 : decode cX11_isNested 2 = .ok (.iconst 0, 1) := by decide +kernel
theorem dX11_isNested_3 : decode cX11_isNested 3 = .ok (.istore_n 2, 1) := by decide +kernel
theorem dX11_isNested_4 : decode cX11_isNested 4 = .ok (.iload_n 2, 1) := by decide +kernel
theorem dX11_isNested_5 : decode cX11_isNested 5 = .ok (.aload_n 0, 1) := by decide +kernel
theorem dX11_isNested_6 : decode cX11_isNested 6 = .ok (.getfield 231, 3) := by decide +kernel
theorem dX11_isNested_9 : decode cX11_isNested 9 = .ok (.if_icmp .ge 50, 3) := by decide +kernel
theorem dX11_isNested_12 : decode cX11_isNested 12 = .ok (.iconst 0, 1) := by decide +kernel
theorem dX11_isNested_13 : decode cX11_isNested 13 = .ok (.istore_n 3, 1) := by decide +kernel
theorem dX11_isNested_14 : decode cX11_isNested 14 = .ok (.iload_n 3, 1) := by decide +kernel
theorem dX11_isNested_15 : decode cX11_isNested 15 = .ok (.iconst 3, 1) := by decide +kernel
theorem dX11_isNested_16 : decode cX11_isNested 16 = .ok (.if_icmp .ge 37, 3) := by decide +kernel
theorem dX11_isNested_19 : decode cX11_isNested 19 = .ok (.iload_n 1, 1) := by decide +kernel
theorem dX11_isNested_20 : decode cX11_isNested 20 = .ok (.ifCond .ne 21, 3) := by decide +kernel
theorem dX11_isNested_23 : decode cX11_isNested 23 = .ok (.aload_n 0, 1) := by decide +kernel
theorem dX11_isNested_24 : decode cX11_isNested 24 = .ok (.getfield 40, 3) := by decide +kernel
theorem dX11_isNested_27 : decode cX11_isNested 27 = .ok (.bipush 52, 2) := by decide +kernel
theorem dX11_isNested_29 : decode cX11_isNested 29 = .ok (.iload_n 2, 1) := by decide +kernel
theorem dX11_isNested_30 : decode cX11_isNested 30 = .ok (.imul, 1) := by decide +kernel
theorem dX11_isNested_31 : decode cX11_isNested 31 = .ok (.bipush 15, 2) := by decide +kernel
theorem dX11_isNested_33 : decode cX11_isNested 33 = .ok (.iadd, 1) := by decide +kernel
theorem dX11_isNested_34 : decode cX11_isNested 34 = .ok (.iload_n 3, 1) := by decide +kernel
theorem dX11_isNested_35 : decode cX11_isNested 35 = .ok (.iadd, 1) := by decide +kernel
theorem dX11_isNested_36 : decode cX11_isNested 36 = .ok (.iaload, 1) := by decide +kernel
theorem dX11_isNested_37 : decode cX11_isNested 37 = .ok (.iconst 1, 1) := by decide +kernel
theorem dX11_isNested_38 : decode cX11_isNested 38 = .ok (.if_icmp .le 7, 3) := by decide +kernel
theorem dX11_isNested_41 : decode cX11_isNested 41 = .ok (.iconst 1, 1) := by decide +kernel
theorem dX11_isNested_42 : decode cX11_isNested 42 = .ok (.goto 4, 3) := by decide +kernel
theorem dX11_isNested_45 : decode cX11_isNested 45 = .ok (.iconst 0, 1) := by decide +kernel
theorem dX11_isNested_46 : decode cX11_isNested 46 = .ok (.istore_n 1, 1) := by decide +kernel
theorem dX11_isNested_47 : decode cX11_isNested 47 = .ok (.iinc 3 1, 3) := by decide +kernel
theorem dX11_isNested_50 : decode cX11_isNested 50 = .ok (.goto (-36), 3) := by decide +kernel
theorem dX11_isNested_53 : decode cX11_isNested 53 = .ok (.iinc 2 1, 3) := by decide +kernel
theorem dX11_isNested_56 : decode cX11_isNested 56 = .ok (.goto (-52), 3) := by decide +kernel
theorem dX11_isNested_59 : decode cX11_isNested 59 = .ok (.iload_n 1, 1) := by decide +kernel
theorem dX11_isNested_60 : decode cX11_isNested 60 = .ok (.ireturn, 1) := by decide +kernel
theorem dX11_isOutcome_0 : decode cX11_isOutcome 0 = .ok (.aload_n 0, 1) := by decide +kernel
theorem dX11_isOutcome_1 : decode cX11_isOutcome 1 = .ok (.aload_n 0, 1) := by decide +kernel
theorem dX11_isOutcome_2 : decode cX11_isOutcome 2 = .ok (.getfield 40, 3) := by decide +kernel
theorem dX11_isOutcome_5 : decode cX11_isOutcome 5 = .ok (.bipush 52, 2) := by decide +kernel
theorem dX11_isOutcome_7 : decode cX11_isOutcome 7 = .ok (.iload_n 1, 1) := by decide +kernel
theorem dX11_isOutcome_8 : decode cX11_isOutcome 8 = .ok (.imul, 1) := by decide +kernel
theorem dX11_isOutcome_9 : decode cX11_isOutcome 9 = .ok (.invokevirtual 225, 3) := by decide +kernel
theorem dX11_isOutcome_12 : decode cX11_isOutcome 12 = .ok (.istore_n 2, 1) := by decide +kernel
theorem dX11_isOutcome_13 : decode cX11_isOutcome 13 = .ok (.iconst 0, 1) := by decide +kernel
theorem dX11_isOutcome_14 : decode cX11_isOutcome 14 = .ok (.istore_n 3, 1) := by decide +kernel
theorem dX11_isOutcome_15 : decode cX11_isOutcome 15 = .ok (.iload_n 3, 1) := by decide +kernel
theorem dX11_isOutcome_16 : decode cX11_isOutcome 16 = .ok (.iload_n 1, 1) := by decide +kernel
theorem dX11_isOutcome_17 : decode cX11_isOutcome 17 = .ok (.if_icmp .ge 43, 3) := by decide +kernel
theorem dX11_isOutcome_20 : decode cX11_isOutcome 20 = .ok (.iload_n 2, 1) := by decide +kernel
theorem dX11_isOutcome_21 : decode cX11_isOutcome 21 = .ok (.ifCond .eq 39, 3) := by decide +kernel
theorem dX11_isOutcome_24 : decode cX11_isOutcome 24 = .ok (.aload_n 0, 1) := by decide +kernel
theorem dX11_isOutcome_25 : decode cX11_isOutcome 25 = .ok (.aload_n 0, 1) := by decide +kernel
theorem dX11_isOutcome_26 : decode cX11_isOutcome 26 = .ok (.getfield 40, 3) := by decide +kernel
theorem dX11_isOutcome_29 : decode cX11_isOutcome 29 = .ok (.bipush 52, 2) := by decide +kernel
theorem dX11_isOutcome_31 : decode cX11_isOutcome 31 = .ok (.iload_n 3, 1) := by decide +kernel
theorem dX11_isOutcome_32 : decode cX11_isOutcome 32 = .ok (.imul, 1) := by decide +kernel
theorem dX11_isOutcome_33 : decode cX11_isOutcome 33 = .ok (.invokevirtual 225, 3) := by decide +kernel
theorem dX11_isOutcome_36 : decode cX11_isOutcome 36 = .ok (.ifCond .eq 12, 3) := by decide +kernel
theorem dX11_isOutcome_39 : decode cX11_isOutcome 39 = .ok (.aload_n 0, 1) := by decide +kernel
theorem dX11_isOutcome_40 : decode cX11_isOutcome 40 = .ok (.iload_n 1, 1) := by decide +kernel
theorem dX11_isOutcome_41 : decode cX11_isOutcome 41 = .ok (.iload_n 3, 1) := by decide +kernel
theorem dX11_isOutcome_42 : decode cX11_isOutcome 42 = .ok (.invokevirtual 244, 3) := by decide +kernel
theorem dX11_isOutcome_45 : decode cX11_isOutcome 45 = .ok (.ifCond .ne 7, 3) := by decide +kernel
theorem dX11_isOutcome_48 : decode cX11_isOutcome 48 = .ok (.iconst 1, 1) := by decide +kernel
theorem dX11_isOutcome_49 : decode cX11_isOutcome 49 = .ok (.goto 4, 3) := by decide +kernel
theorem dX11_isOutcome_52 : decode cX11_isOutcome 52 = .ok (.iconst 0, 1) := by decide +kernel
theorem dX11_isOutcome_53 : decode cX11_isOutcome 53 = .ok (.istore_n 2, 1) := by decide +kernel
theorem dX11_isOutcome_54 : decode cX11_isOutcome 54 = .ok (.iinc 3 1, 3) := by decide +kernel
theorem dX11_isOutcome_57 : decode cX11_isOutcome 57 = .ok (.goto (-42), 3) := by decide +kernel
theorem dX11_isOutcome_60 : decode cX11_isOutcome 60 = .ok (.iload_n 2, 1) := by decide +kernel
theorem dX11_isOutcome_61 : decode cX11_isOutcome 61 = .ok (.ireturn, 1) := by decide +kernel
theorem dX11_isOver_0 : decode cX11_isOver 0 = .ok (.aload_n 0, 1) := by decide +kernel
theorem dX11_isOver_1 : decode cX11_isOver 1 = .ok (.getfield 9, 3) := by decide +kernel
theorem dX11_isOver_4 : decode cX11_isOver 4 = .ok (.bipush 52, 2) := by decide +kernel
theorem dX11_isOver_6 : decode cX11_isOver 6 = .ok (.iaload, 1) := by decide +kernel
theorem dX11_isOver_7 : decode cX11_isOver 7 = .ok (.ifCond .le 36, 3) := by decide +kernel
theorem dX11_isOver_10 : decode cX11_isOver 10 = .ok (.aload_n 0, 1) := by decide +kernel
theorem dX11_isOver_11 : decode cX11_isOver 11 = .ok (.aload_n 1, 1) := by decide +kernel
theorem dX11_isOver_12 : decode cX11_isOver 12 = .ok (.iload_n 2, 1) := by decide +kernel
theorem dX11_isOver_13 : decode cX11_isOver 13 = .ok (.iconst 3, 1) := by decide +kernel
theorem dX11_isOver_14 : decode cX11_isOver 14 = .ok (.invokevirtual 215, 3) := by decide +kernel
theorem dX11_isOver_17 : decode cX11_isOver 17 = .ok (.aload_n 0, 1) := by decide +kernel
theorem dX11_isOver_18 : decode cX11_isOver 18 = .ok (.aload_n 1, 1) := by decide +kernel
theorem dX11_isOver_19 : decode cX11_isOver 19 = .ok (.iload_n 2, 1) := by decide +kernel
theorem dX11_isOver_20 : decode cX11_isOver 20 = .ok (.iconst 4, 1) := by decide +kernel
theorem dX11_isOver_21 : decode cX11_isOver 21 = .ok (.invokevirtual 215, 3) := by decide +kernel
theorem dX11_isOver_24 : decode cX11_isOver 24 = .ok (.ior, 1) := by decide +kernel
theorem dX11_isOver_25 : decode cX11_isOver 25 = .ok (.iconst 1, 1) := by decide +kernel
theorem dX11_isOver_26 : decode cX11_isOver 26 = .ok (.aload_n 0, 1) := by decide +kernel
theorem dX11_isOver_27 : decode cX11_isOver 27 = .ok (.getfield 9, 3) := by decide +kernel
theorem dX11_isOver_30 : decode cX11_isOver 30 = .ok (.bipush 52, 2) := by decide +kernel
theorem dX11_isOver_32 : decode cX11_isOver 32 = .ok (.iaload, 1) := by decide +kernel
theorem dX11_isOver_33 : decode cX11_isOver 33 = .ok (.ishl, 1) := by decide +kernel
theorem dX11_isOver_34 : decode cX11_isOver 34 = .ok (.iconst 1, 1) := by decide +kernel
theorem dX11_isOver_35 : decode cX11_isOver 35 = .ok (.isub, 1) := by decide +kernel
theorem dX11_isOver_36 : decode cX11_isOver 36 = .ok (.if_icmp .ne 7, 3) := by decide +kernel
theorem dX11_isOver_39 : decode cX11_isOver 39 = .ok (.iconst 1, 1) := by decide +kernel
theorem dX11_isOver_40 : decode cX11_isOver 40 = .ok (.goto 4, 3) := by decide +kernel
theorem dX11_isOver_43 : decode cX11_isOver 43 = .ok (.iconst 0, 1) := by decide +kernel
theorem dX11_isOver_44 : decode cX11_isOver 44 = .ok (.ireturn, 1) := by decide +kernel
theorem dX11_isOwner_0 : decode cX11_isOwner 0 = .ok (.aload_n 0, 1) := by decide +kernel
theorem dX11_isOwner_1 : decode cX11_isOwner 1 = .ok (.getfield 16, 3) := by decide +kernel
theorem dX11_isOwner_4 : decode cX11_isOwner 4 = .ok (.bipush 12, 2) := by decide +kernel
theorem dX11_isOwner_6 : decode cX11_isOwner 6 = .ok (.iload_n 2, 1) := by decide +kernel
theorem dX11_isOwner_7 : decode cX11_isOwner 7 = .ok (.iadd, 1) := by decide +kernel
theorem dX11_isOwner_8 : decode cX11_isOwner 8 = .ok (.iaload, 1) := by decide +kernel
theorem dX11_isOwner_9 : decode cX11_isOwner 9 = .ok (.iload_n 1, 1) := by decide +kernel
theorem dX11_isOwner_10 : decode cX11_isOwner 10 = .ok (.iconst 1, 1) := by decide +kernel
theorem dX11_isOwner_11 : decode cX11_isOwner 11 = .ok (.iadd, 1) := by decide +kernel
theorem dX11_isOwner_12 : decode cX11_isOwner 12 = .ok (.if_icmp .ne 7, 3) := by decide +kernel
theorem dX11_isOwner_15 : decode cX11_isOwner 15 = .ok (.iconst 1, 1) := by decide +kernel
theorem dX11_isOwner_16 : decode cX11_isOwner 16 = .ok (.goto 4, 3) := by decide +kernel
theorem dX11_isOwner_19 : decode cX11_isOwner 19 = .ok (.iconst 0, 1) := by decide +kernel
theorem dX11_isOwner_20 : decode cX11_isOwner 20 = .ok (.ireturn, 1) := by decide +kernel
theorem dX11_isReady_0 : decode cX11_isReady 0 = .ok (.aload_n 0, 1) := by decide +kernel
theorem dX11_isReady_1 : decode cX11_isReady 1 = .ok (.iload_n 1, 1) := by decide +kernel
theorem dX11_isReady_2 : decode cX11_isReady 2 = .ok (.invokevirtual 133, 3) := by decide +kernel
theorem dX11_isReady_5 : decode cX11_isReady 5 = .ok (.ifCond .eq 18, 3) := by decide +kernel
theorem dX11_isReady_8 : decode cX11_isReady 8 = .ok (.aload_n 0, 1) := by decide +kernel
theorem dX11_isReady_9 : decode cX11_isReady 9 = .ok (.getfield 9, 3) := by decide +kernel
theorem dX11_isReady_12 : decode cX11_isReady 12 = .ok (.iconst 4, 1) := by decide +kernel
theorem dX11_isReady_13 : decode cX11_isReady 13 = .ok (.iload_n 1, 1) := by decide +kernel
theorem dX11_isReady_14 : decode cX11_isReady 14 = .ok (.iadd, 1) := by decide +kernel
theorem dX11_isReady_15 : decode cX11_isReady 15 = .ok (.iaload, 1) := by decide +kernel
theorem dX11_isReady_16 : decode cX11_isReady 16 = .ok (.ifCond .ne 7, 3) := by decide +kernel
theorem dX11_isReady_19 : decode cX11_isReady 19 = .ok (.iconst 1, 1) := by decide +kernel
theorem dX11_isReady_20 : decode cX11_isReady 20 = .ok (.goto 4, 3) := by decide +kernel
theorem dX11_isReady_23 : decode cX11_isReady 23 = .ok (.iconst 0, 1) := by decide +kernel
theorem dX11_isReady_24 : decode cX11_isReady 24 = .ok (.ireturn, 1) := by decide +kernel
theorem dX11_isTask_0 : decode cX11_isTask 0 = .ok (.iload_n 1, 1) := by decide +kernel
theorem dX11_isTask_1 : decode cX11_isTask 1 = .ok (.i2l, 1) := by decide +kernel
theorem dX11_isTask_2 : decode cX11_isTask 2 = .ok (.lconst 0, 1) := by decide +kernel
theorem dX11_isTask_3 : decode cX11_isTask 3 = .ok (.aload_n 0, 1) := by decide +kernel
theorem dX11_isTask_4 : decode cX11_isTask 4 = .ok (.getfield 9, 3) := by decide +kernel
theorem dX11_isTask_7 : decode cX11_isTask 7 = .ok (.bipush 52, 2) := by decide +kernel
theorem dX11_isTask_9 : decode cX11_isTask 9 = .ok (.iaload, 1) := by decide +kernel
theorem dX11_isTask_10 : decode cX11_isTask 10 = .ok (.iconst 1, 1) := by decide +kernel
theorem dX11_isTask_11 : decode cX11_isTask 11 = .ok (.isub, 1) := by decide +kernel
theorem dX11_isTask_12 : decode cX11_isTask 12 = .ok (.i2l, 1) := by decide +kernel
theorem dX11_isTask_13 : decode cX11_isTask 13 = .ok (.invokestatic 64, 3) := by decide +kernel
theorem dX11_isTask_16 : decode cX11_isTask 16 = .ok (.ireturn, 1) := by decide +kernel
theorem dX11_isWord_0 : decode cX11_isWord 0 = .ok (.aload_n 0, 1) := by decide +kernel
theorem dX11_isWord_1 : decode cX11_isWord 1 = .ok (.getfield 89, 3) := by decide +kernel
theorem dX11_isWord_4 : decode cX11_isWord 4 = .ok (.iload_n 2, 1) := by decide +kernel
theorem dX11_isWord_5 : decode cX11_isWord 5 = .ok (.isub, 1) := by decide +kernel
theorem dX11_isWord_6 : decode cX11_isWord 6 = .ok (.bipush 6, 2) := by decide +kernel
theorem dX11_isWord_8 : decode cX11_isWord 8 = .ok (.if_icmp .gt 7, 3) := by decide +kernel
theorem dX11_isWord_11 : decode cX11_isWord 11 = .ok (.iconst 1, 1) := by decide +kernel
theorem dX11_isWord_12 : decode cX11_isWord 12 = .ok (.goto 4, 3) := by decide +kernel
theorem dX11_isWord_15 : decode cX11_isWord 15 = .ok (.iconst 0, 1) := by decide +kernel
theorem dX11_isWord_16 : decode cX11_isWord 16 = .ok (.istore_n 3, 1) := by decide +kernel
theorem dX11_isWord_17 : decode cX11_isWord 17 = .ok (.iconst 0, 1) := by decide +kernel
theorem dX11_isWord_18 : decode cX11_isWord 18 = .ok (.istore 4, 2) := by decide +kernel
theorem dX11_isWord_20 : decode cX11_isWord 20 = .ok (.iload 4, 2) := by decide +kernel
theorem dX11_isWord_22 : decode cX11_isWord 22 = .ok (.bipush 6, 2) := by decide +kernel
theorem dX11_isWord_24 : decode cX11_isWord 24 = .ok (.if_icmp .ge 58, 3) := by decide +kernel
theorem dX11_isWord_27 : decode cX11_isWord 27 = .ok (.iload_n 3, 1) := by decide +kernel
theorem dX11_isWord_28 : decode cX11_isWord 28 = .ok (.ifCond .eq 54, 3) := by decide +kernel
theorem dX11_isWord_31 : decode cX11_isWord 31 = .ok (.aload_n 0, 1) := by decide +kernel
theorem dX11_isWord_32 : decode cX11_isWord 32 = .ok (.getfield 31, 3) := by decide +kernel
theorem dX11_isWord_35 : decode cX11_isWord 35 = .ok (.bipush 6, 2) := by decide +kernel
theorem dX11_isWord_37 : decode cX11_isWord 37 = .ok (.iload_n 1, 1) := by decide +kernel
theorem dX11_isWord_38 : decode cX11_isWord 38 = .ok (.imul, 1) := by decide +kernel
theorem dX11_isWord_39 : decode cX11_isWord 39 = .ok (.iload 4, 2) := by decide +kernel
theorem dX11_isWord_41 : decode cX11_isWord 41 = .ok (.iadd, 1) := by decide +kernel
theorem dX11_isWord_42 : decode cX11_isWord 42 = .ok (.iaload, 1) := by decide +kernel
theorem dX11_isWord_43 : decode cX11_isWord 43 = .ok (.iload_n 2, 1) := by decide +kernel
theorem dX11_isWord_44 : decode cX11_isWord 44 = .ok (.iload 4, 2) := by decide +kernel
theorem dX11_isWord_46 : decode cX11_isWord 46 = .ok (.iadd, 1) := by decide +kernel
theorem dX11_isWord_47 : decode cX11_isWord 47 = .ok (.aload_n 0, 1) := by decide +kernel
theorem dX11_isWord_48 : decode cX11_isWord 48 = .ok (.getfield 89, 3) := by decide +kernel
theorem dX11_isWord_51 : decode cX11_isWord 51 = .ok (.if_icmp .ge 15, 3) := by decide +kernel
theorem dX11_isWord_54 : decode cX11_isWord 54 = .ok (.aload_n 0, 1) := by decide +kernel
theorem dX11_isWord_55 : decode cX11_isWord 55 = .ok (.getfield 25, 3) := by decide +kernel
theorem dX11_isWord_58 : decode cX11_isWord 58 = .ok (.iload_n 2, 1) := by decide +kernel
theorem dX11_isWord_59 : decode cX11_isWord 59 = .ok (.iload 4, 2) := by decide +kernel
theorem dX11_isWord_61 : decode cX11_isWord 61 = .ok (.iadd, 1) := by decide +kernel
theorem dX11_isWord_62 : decode cX11_isWord 62 = .ok (.iaload, 1) := by decide +kernel
theorem dX11_isWord_63 : decode cX11_isWord 63 = .ok (.goto 4, 3) := by decide +kernel
theorem dX11_isWord_66 : decode cX11_isWord 66 = .ok (.iconst 0, 1) := by decide +kernel
theorem dX11_isWord_67 : decode cX11_isWord 67 = .ok (.if_icmp .ne 7, 3) := by decide +kernel
theorem dX11_isWord_70 : decode cX11_isWord 70 = .ok (.iconst 1, 1) := by decide +kernel
theorem dX11_isWord_71 : decode cX11_isWord 71 = .ok (.goto 4, 3) := by decide +kernel
theorem dX11_isWord_74 : decode cX11_isWord 74 = .ok (.iconst 0, 1) := by decide +kernel
theorem dX11_isWord_75 : decode cX11_isWord 75 = .ok (.istore_n 3, 1) := by decide +kernel
theorem dX11_isWord_76 : decode cX11_isWord 76 = .ok (.iinc 4 1, 3) := by decide +kernel
theorem dX11_isWord_79 : decode cX11_isWord 79 = .ok (.goto (-59), 3) := by decide +kernel
theorem dX11_isWord_82 : decode cX11_isWord 82 = .ok (.iload_n 3, 1) := by decide +kernel
theorem dX11_isWord_83 : decode cX11_isWord 83 = .ok (.ireturn, 1) := by decide +kernel
theorem dX11_lay_0 : decode cX11_lay 0 = .ok (.iload_n 1, 1) := by decide +kernel
theorem dX11_lay_1 : decode cX11_lay 1 = .ok (.i2l, 1) := by decide +kernel
theorem dX11_lay_2 : decode cX11_lay 2 = .ok (.lconst 0, 1) := by decide +kernel
theorem dX11_lay_3 : decode cX11_lay 3 = .ok (.lconst 1, 1) := by decide +kernel
theorem dX11_lay_4 : decode cX11_lay 4 = .ok (.invokestatic 64, 3) := by decide +kernel
theorem dX11_lay_7 : decode cX11_lay 7 = .ok (.ifCond .eq 10, 3) := by decide +kernel
theorem dX11_lay_10 : decode cX11_lay 10 = .ok (.iload_n 2, 1) := by decide +kernel
theorem dX11_lay_11 : decode cX11_lay 11 = .ok (.invokestatic 203, 3) := by decide +kernel
theorem dX11_lay_14 : decode cX11_lay 14 = .ok (.ifCond .ne 5, 3) := by decide +kernel
theorem dX11_lay_17 : decode cX11_lay 17 = .ok (.iconst (-1), 1) := by decide +kernel
theorem dX11_lay_18 : decode cX11_lay 18 = .ok (.ireturn, 1) := by decide +kernel
theorem dX11_lay_19 : decode cX11_lay 19 = .ok (.aload_n 0, 1) := by decide +kernel
theorem dX11_lay_20 : decode cX11_lay 20 = .ok (.getfield 58, 3) := by decide +kernel
theorem dX11_lay_23 : decode cX11_lay 23 = .ok (.iload_n 2, 1) := by decide +kernel
theorem dX11_lay_24 : decode cX11_lay 24 = .ok (.iaload, 1) := by decide +kernel
theorem dX11_lay_25 : decode cX11_lay 25 = .ok (.ifCond .ge 6, 3) := by decide +kernel
theorem dX11_lay_28 : decode cX11_lay 28 = .ok (.bipush (-11), 2) := by decide +kernel
theorem dX11_lay_30 : decode cX11_lay 30 = .ok (.ireturn, 1) := by decide +kernel
theorem dX11_lay_31 : decode cX11_lay 31 = .ok (.aload_n 0, 1) := by decide +kernel
theorem dX11_lay_32 : decode cX11_lay 32 = .ok (.iload_n 1, 1) := by decide +kernel
theorem dX11_lay_33 : decode cX11_lay 33 = .ok (.invokevirtual 275, 3) := by decide +kernel
theorem dX11_lay_36 : decode cX11_lay 36 = .ok (.istore 4, 2) := by decide +kernel
theorem dX11_lay_38 : decode cX11_lay 38 = .ok (.iload 4, 2) := by decide +kernel
theorem dX11_lay_40 : decode cX11_lay 40 = .ok (.ifCond .ge 6, 3) := by decide +kernel
theorem dX11_lay_43 : decode cX11_lay 43 = .ok (.bipush (-5), 2) := by decide +kernel
theorem dX11_lay_45 : decode cX11_lay 45 = .ok (.ireturn, 1) := by decide +kernel
theorem dX11_lay_46 : decode cX11_lay 46 = .ok (.iconst 0, 1) := by decide +kernel
theorem dX11_lay_47 : decode cX11_lay 47 = .ok (.istore 5, 2) := by decide +kernel
theorem dX11_lay_49 : decode cX11_lay 49 = .ok (.iload 5, 2) := by decide +kernel
theorem dX11_lay_51 : decode cX11_lay 51 = .ok (.aload_n 0, 1) := by decide +kernel
theorem dX11_lay_52 : decode cX11_lay 52 = .ok (.getfield 49, 3) := by decide +kernel
theorem dX11_lay_55 : decode cX11_lay 55 = .ok (.iload 4, 2) := by decide +kernel
theorem dX11_lay_57 : decode cX11_lay 57 = .ok (.iaload, 1) := by decide +kernel
theorem dX11_lay_58 : decode cX11_lay 58 = .ok (.if_icmp .ge 55, 3) := by decide +kernel
theorem dX11_lay_61 : decode cX11_lay 61 = .ok (.iload_n 3, 1) := by decide +kernel
theorem dX11_lay_62 : decode cX11_lay 62 = .ok (.ifCond .lt 20, 3) := by decide +kernel
theorem dX11_lay_65 : decode cX11_lay 65 = .ok (.iload_n 3, 1) := by decide +kernel
theorem dX11_lay_66 : decode cX11_lay 66 = .ok (.i2l, 1) := by decide +kernel
theorem dX11_lay_67 : decode cX11_lay 67 = .ok (.iload 5, 2) := by decide +kernel
theorem dX11_lay_69 : decode cX11_lay 69 = .ok (.i2l, 1) := by decide +kernel
theorem dX11_lay_70 : decode cX11_lay 70 = .ok (.ladd, 1) := by decide +kernel
theorem dX11_lay_71 : decode cX11_lay 71 = .ok (.aload_n 0, 1) := by decide +kernel
theorem dX11_lay_72 : decode cX11_lay 72 = .ok (.getfield 58, 3) := by decide +kernel
theorem dX11_lay_75 : decode cX11_lay 75 = .ok (.iload_n 2, 1) := by decide +kernel
theorem dX11_lay_76 : decode cX11_lay 76 = .ok (.iaload, 1) := by decide +kernel
theorem dX11_lay_77 : decode cX11_lay 77 = .ok (.i2l, 1) := by decide +kernel
theorem dX11_lay_78 : decode cX11_lay 78 = .ok (.lcmp, 1) := by decide +kernel
theorem dX11_lay_79 : decode cX11_lay 79 = .ok (.ifCond .lt 6, 3) := by decide +kernel
theorem dX11_lay_82 : decode cX11_lay 82 = .ok (.bipush (-13), 2) := by decide +kernel
theorem dX11_lay_84 : decode cX11_lay 84 = .ok (.ireturn, 1) := by decide +kernel
theorem dX11_lay_85 : decode cX11_lay 85 = .ok (.aload_n 0, 1) := by decide +kernel
theorem dX11_lay_86 : decode cX11_lay 86 = .ok (.getfield 61, 3) := by decide +kernel
theorem dX11_lay_89 : decode cX11_lay 89 = .ok (.bipush 40, 2) := by decide +kernel
theorem dX11_lay_91 : decode cX11_lay 91 = .ok (.iload_n 2, 1) := by decide +kernel
theorem dX11_lay_92 : decode cX11_lay 92 = .ok (.imul, 1) := by decide +kernel
theorem dX11_lay_93 : decode cX11_lay 93 = .ok (.iload_n 3, 1) := by decide +kernel
theorem dX11_lay_94 : decode cX11_lay 94 = .ok (.iadd, 1) := by decide +kernel
theorem dX11_lay_95 : decode cX11_lay 95 = .ok (.iload 5, 2) := by decide +kernel
theorem dX11_lay_97 : decode cX11_lay 97 = .ok (.iadd, 1) := by decide +kernel
theorem dX11_lay_98 : decode cX11_lay 98 = .ok (.aload_n 0, 1) := by decide +kernel
theorem dX11_lay_99 : decode cX11_lay 99 = .ok (.iload 4, 2) := by decide +kernel
theorem dX11_lay_101 : decode cX11_lay 101 = .ok (.iload 5, 2) := by decide +kernel
theorem dX11_lay_103 : decode cX11_lay 103 = .ok (.invokevirtual 278, 3) := by decide +kernel
theorem dX11_lay_106 : decode cX11_lay 106 = .ok (.iastore, 1) := by decide +kernel
theorem dX11_lay_107 : decode cX11_lay 107 = .ok (.iinc 5 1, 3) := by decide +kernel
theorem dX11_lay_110 : decode cX11_lay 110 = .ok (.goto (-61), 3) := by decide +kernel
theorem dX11_lay_113 : decode cX11_lay 113 = .ok (.aload_n 0, 1) := by decide +kernel
theorem dX11_lay_114 : decode cX11_lay 114 = .ok (.getfield 49, 3) := by decide +kernel
theorem dX11_lay_117 : decode cX11_lay 117 = .ok (.iload 4, 2) := by decide +kernel
theorem dX11_lay_119 : decode cX11_lay 119 = .ok (.iaload, 1) := by decide +kernel
theorem dX11_lay_120 : decode cX11_lay 120 = .ok (.ireturn, 1) := by decide +kernel
theorem dX11_leaves_0 : decode cX11_leaves 0 = .ok (.aload_n 0, 1) := by decide +kernel
theorem dX11_leaves_1 : decode cX11_leaves 1 = .ok (.getfield 16, 3) := by decide +kernel
theorem dX11_leaves_4 : decode cX11_leaves 4 = .ok (.iload_n 2, 1) := by decide +kernel
theorem dX11_leaves_5 : decode cX11_leaves 5 = .ok (.iconst 4, 1) := by decide +kernel
theorem dX11_leaves_6 : decode cX11_leaves 6 = .ok (.iload_n 3, 1) := by decide +kernel
theorem dX11_leaves_7 : decode cX11_leaves 7 = .ok (.imul, 1) := by decide +kernel
theorem dX11_leaves_8 : decode cX11_leaves 8 = .ok (.iadd, 1) := by decide +kernel
theorem dX11_leaves_9 : decode cX11_leaves 9 = .ok (.iaload, 1) := by decide +kernel
theorem dX11_leaves_10 : decode cX11_leaves 10 = .ok (.iconst 1, 1) := by decide +kernel
theorem dX11_leaves_11 : decode cX11_leaves 11 = .ok (.isub, 1) := by decide +kernel
theorem dX11_leaves_12 : decode cX11_leaves 12 = .ok (.istore 4, 2) := by decide +kernel
theorem dX11_leaves_14 : decode cX11_leaves 14 = .ok (.aload_n 0, 1) := by decide +kernel
theorem dX11_leaves_15 : decode cX11_leaves 15 = .ok (.getfield 16, 3) := by decide +kernel
theorem dX11_leaves_18 : decode cX11_leaves 18 = .ok (.iload_n 1, 1) := by decide +kernel
theorem dX11_leaves_19 : decode cX11_leaves 19 = .ok (.iload_n 3, 1) := by decide +kernel
theorem dX11_leaves_20 : decode cX11_leaves 20 = .ok (.iadd, 1) := by decide +kernel
theorem dX11_leaves_21 : decode cX11_leaves 21 = .ok (.dup2, 1) := by decide +kernel
theorem dX11_leaves_22 : decode cX11_leaves 22 = .ok (.iaload, 1) := by decide +kernel
theorem dX11_leaves_23 : decode cX11_leaves 23 = .ok (.iconst 1, 1) := by decide +kernel
theorem dX11_leaves_24 : decode cX11_leaves 24 = .ok (.isub, 1) := by decide +kernel
theorem dX11_leaves_25 : decode cX11_leaves 25 = .ok (.iastore, 1) := by decide +kernel
theorem dX11_leaves_26 : decode cX11_leaves 26 = .ok (.iconst 0, 1) := by decide +kernel
theorem dX11_leaves_27 : decode cX11_leaves 27 = .ok (.istore 5, 2) := by decide +kernel
theorem dX11_leaves_29 : decode cX11_leaves 29 = .ok (.iload 5, 2) := by decide +kernel
theorem dX11_leaves_31 : decode cX11_leaves 31 = .ok (.iconst 4, 1) := by decide +kernel
theorem dX11_leaves_32 : decode cX11_leaves 32 = .ok (.if_icmp .ge 54, 3) := by decide +kernel
theorem dX11_leaves_35 : decode cX11_leaves 35 = .ok (.aload_n 0, 1) := by decide +kernel
theorem dX11_leaves_36 : decode cX11_leaves 36 = .ok (.getfield 16, 3) := by decide +kernel
theorem dX11_leaves_39 : decode cX11_leaves 39 = .ok (.iload_n 2, 1) := by decide +kernel
theorem dX11_leaves_40 : decode cX11_leaves 40 = .ok (.iconst 4, 1) := by decide +kernel
theorem dX11_leaves_41 : decode cX11_leaves 41 = .ok (.iload_n 3, 1) := by decide +kernel
theorem dX11_leaves_42 : decode cX11_leaves 42 = .ok (.imul, 1) := by decide +kernel
theorem dX11_leaves_43 : decode cX11_leaves 43 = .ok (.iadd, 1) := by decide +kernel
theorem dX11_leaves_44 : decode cX11_leaves 44 = .ok (.iload 5, 2) := by decide +kernel
theorem dX11_leaves_46 : decode cX11_leaves 46 = .ok (.iadd, 1) := by decide +kernel
theorem dX11_leaves_47 : decode cX11_leaves 47 = .ok (.iload 5, 2) := by decide +kernel
theorem dX11_leaves_49 : decode cX11_leaves 49 = .ok (.aload_n 0, 1) := by decide +kernel
theorem dX11_leaves_50 : decode cX11_leaves 50 = .ok (.getfield 16, 3) := by decide +kernel
theorem dX11_leaves_53 : decode cX11_leaves 53 = .ok (.iload_n 1, 1) := by decide +kernel
theorem dX11_leaves_54 : decode cX11_leaves 54 = .ok (.iload_n 3, 1) := by decide +kernel
theorem dX11_leaves_55 : decode cX11_leaves 55 = .ok (.iadd, 1) := by decide +kernel
theorem dX11_leaves_56 : decode cX11_leaves 56 = .ok (.iaload, 1) := by decide +kernel
theorem dX11_leaves_57 : decode cX11_leaves 57 = .ok (.if_icmp .ge 21, 3) := by decide +kernel
theorem dX11_leaves_60 : decode cX11_leaves 60 = .ok (.aload_n 0, 1) := by decide +kernel
theorem dX11_leaves_61 : decode cX11_leaves 61 = .ok (.getfield 16, 3) := by decide +kernel
theorem dX11_leaves_64 : decode cX11_leaves 64 = .ok (.iload_n 2, 1) := by decide +kernel
theorem dX11_leaves_65 : decode cX11_leaves 65 = .ok (.iconst 4, 1) := by decide +kernel
theorem dX11_leaves_66 : decode cX11_leaves 66 = .ok (.iload_n 3, 1) := by decide +kernel
theorem dX11_leaves_67 : decode cX11_leaves 67 = .ok (.imul, 1) := by decide +kernel
theorem dX11_leaves_68 : decode cX11_leaves 68 = .ok (.iadd, 1) := by decide +kernel
theorem dX11_leaves_69 : decode cX11_leaves 69 = .ok (.iload 5, 2) := by decide +kernel
theorem dX11_leaves_71 : decode cX11_leaves 71 = .ok (.iadd, 1) := by decide +kernel
theorem dX11_leaves_72 : decode cX11_leaves 72 = .ok (.iconst 1, 1) := by decide +kernel
theorem dX11_leaves_73 : decode cX11_leaves 73 = .ok (.iadd, 1) := by decide +kernel
theorem dX11_leaves_74 : decode cX11_leaves 74 = .ok (.iaload, 1) := by decide +kernel
theorem dX11_leaves_75 : decode cX11_leaves 75 = .ok (.goto 4, 3) := by decide +kernel
theorem dX11_leaves_78 : decode cX11_leaves 78 = .ok (.iconst 0, 1) := by decide +kernel
theorem dX11_leaves_79 : decode cX11_leaves 79 = .ok (.iastore, 1) := by decide +kernel
theorem dX11_leaves_80 : decode cX11_leaves 80 = .ok (.iinc 5 1, 3) := by decide +kernel
theorem dX11_leaves_83 : decode cX11_leaves 83 = .ok (.goto (-54), 3) := by decide +kernel
theorem dX11_leaves_86 : decode cX11_leaves 86 = .ok (.iload 4, 2) := by decide +kernel
theorem dX11_leaves_88 : decode cX11_leaves 88 = .ok (.ireturn, 1) := by decide +kernel
theorem dX11_list_0 : decode cX11_list 0 = .ok (.iload_n 1, 1) := by decide +kernel
theorem dX11_list_1 : decode cX11_list 1 = .ok (.invokestatic 203, 3) := by decide +kernel
theorem dX11_list_4 : decode cX11_list 4 = .ok (.ifCond .ne 5, 3) := by decide +kernel
theorem dX11_list_7 : decode cX11_list 7 = .ok (.iconst (-1), 1) := by decide +kernel
theorem dX11_list_8 : decode cX11_list 8 = .ok (.ireturn, 1) := by decide +kernel
theorem dX11_list_9 : decode cX11_list 9 = .ok (.iload_n 2, 1) := by decide +kernel
theorem dX11_list_10 : decode cX11_list 10 = .ok (.bipush 40, 2) := by decide +kernel
theorem dX11_list_12 : decode cX11_list 12 = .ok (.if_icmp .le 6, 3) := by decide +kernel
theorem dX11_list_15 : decode cX11_list 15 = .ok (.bipush (-2), 2) := by decide +kernel
theorem dX11_list_17 : decode cX11_list 17 = .ok (.ireturn, 1) := by decide +kernel
theorem dX11_list_18 : decode cX11_list 18 = .ok (.iload_n 2, 1) := by decide +kernel
theorem dX11_list_19 : decode cX11_list 19 = .ok (.ifCond .ge 6, 3) := by decide +kernel
theorem dX11_list_22 : decode cX11_list 22 = .ok (.bipush (-14), 2) := by decide +kernel
theorem dX11_list_24 : decode cX11_list 24 = .ok (.ireturn, 1) := by decide +kernel
theorem dX11_list_25 : decode cX11_list 25 = .ok (.aload_n 0, 1) := by decide +kernel
theorem dX11_list_26 : decode cX11_list 26 = .ok (.getfield 58, 3) := by decide +kernel
theorem dX11_list_29 : decode cX11_list 29 = .ok (.iload_n 1, 1) := by decide +kernel
theorem dX11_list_30 : decode cX11_list 30 = .ok (.iload_n 2, 1) := by decide +kernel
theorem dX11_list_31 : decode cX11_list 31 = .ok (.iastore, 1) := by decide +kernel
theorem dX11_list_32 : decode cX11_list 32 = .ok (.iconst 0, 1) := by decide +kernel
theorem dX11_list_33 : decode cX11_list 33 = .ok (.istore_n 3, 1) := by decide +kernel
theorem dX11_list_34 : decode cX11_list 34 = .ok (.iload_n 3, 1) := by decide +kernel
theorem dX11_list_35 : decode cX11_list 35 = .ok (.bipush 40, 2) := by decide +kernel
theorem dX11_list_37 : decode cX11_list 37 = .ok (.if_icmp .ge 21, 3) := by decide +kernel
theorem dX11_list_40 : decode cX11_list 40 = .ok (.aload_n 0, 1) := by decide +kernel
theorem dX11_list_41 : decode cX11_list 41 = .ok (.getfield 61, 3) := by decide +kernel
theorem dX11_list_44 : decode cX11_list 44 = .ok (.bipush 40, 2) := by decide +kernel
theorem dX11_list_46 : decode cX11_list 46 = .ok (.iload_n 1, 1) := by decide +kernel
theorem dX11_list_47 : decode cX11_list 47 = .ok (.imul, 1) := by decide +kernel
theorem dX11_list_48 : decode cX11_list 48 = .ok (.iload_n 3, 1) := by decide +kernel
theorem dX11_list_49 : decode cX11_list 49 = .ok (.iadd, 1) := by decide +kernel
theorem dX11_list_50 : decode cX11_list 50 = .ok (.iconst 0, 1) := by decide +kernel
theorem dX11_list_51 : decode cX11_list 51 = .ok (.iastore, 1) := by decide +kernel
theorem dX11_list_52 : decode cX11_list 52 = .ok (.iinc 3 1, 3) := by decide +kernel
theorem dX11_list_55 : decode cX11_list 55 = .ok (.goto (-21), 3) := by decide +kernel
theorem dX11_list_58 : decode cX11_list 58 = .ok (.iconst 1, 1) := by decide +kernel
theorem dX11_list_59 : decode cX11_list 59 = .ok (.ireturn, 1) := by decide +kernel
theorem dX11_manyOf_0 : decode cX11_manyOf 0 = .ok (.iconst 0, 1) := by decide +kernel
theorem dX11_manyOf_1 : decode cX11_manyOf 1 = .ok (.istore_n 2, 1) := by decide +kernel
theorem dX11_manyOf_2 : decode cX11_manyOf 2 = .ok (.iconst 0, 1) := by decide +kernel
theorem dX11_manyOf_3 : decode cX11_manyOf 3 = .ok (.istore_n 3, 1) := by decide +kernel
theorem dX11_manyOf_4 : decode cX11_manyOf 4 = .ok (.iload_n 3, 1) := by decide +kernel
theorem dX11_manyOf_5 : decode cX11_manyOf 5 = .ok (.aload_n 0, 1) := by decide +kernel
theorem dX11_manyOf_6 : decode cX11_manyOf 6 = .ok (.getfield 231, 3) := by decide +kernel
theorem dX11_manyOf_9 : decode cX11_manyOf 9 = .ok (.if_icmp .ge 54, 3) := by decide +kernel
theorem dX11_manyOf_12 : decode cX11_manyOf 12 = .ok (.iload_n 2, 1) := by decide +kernel
theorem dX11_manyOf_13 : decode cX11_manyOf 13 = .ok (.iload_n 1, 1) := by decide +kernel
theorem dX11_manyOf_14 : decode cX11_manyOf 14 = .ok (.ifCond .eq 21, 3) := by decide +kernel
theorem dX11_manyOf_17 : decode cX11_manyOf 17 = .ok (.aload_n 0, 1) := by decide +kernel
theorem dX11_manyOf_18 : decode cX11_manyOf 18 = .ok (.aload_n 0, 1) := by decide +kernel
theorem dX11_manyOf_19 : decode cX11_manyOf 19 = .ok (.getfield 40, 3) := by decide +kernel
theorem dX11_manyOf_22 : decode cX11_manyOf 22 = .ok (.bipush 52, 2) := by decide +kernel
theorem dX11_manyOf_24 : decode cX11_manyOf 24 = .ok (.iload_n 3, 1) := by decide +kernel
theorem dX11_manyOf_25 : decode cX11_manyOf 25 = .ok (.imul, 1) := by decide +kernel
theorem dX11_manyOf_26 : decode cX11_manyOf 26 = .ok (.invokevirtual 221, 3) := by decide +kernel
theorem dX11_manyOf_29 : decode cX11_manyOf 29 = .ok (.ifCond .eq 25, 3) := by decide +kernel
theorem dX11_manyOf_32 : decode cX11_manyOf 32 = .ok (.goto 18, 3) := by decide +kernel
theorem dX11_manyOf_35 : decode cX11_manyOf 35 = .ok (.aload_n 0, 1) := by decide +kernel
theorem dX11_manyOf_36 : decode cX11_manyOf 36 = .ok (.aload_n 0, 1) := by decide +kernel
theorem dX11_manyOf_37 : decode cX11_manyOf 37 = .ok (.getfield 40, 3) := by decide +kernel
theorem dX11_manyOf_40 : decode cX11_manyOf 40 = .ok (.bipush 52, 2) := by decide +kernel
theorem dX11_manyOf_42 : decode cX11_manyOf 42 = .ok (.iload_n 3, 1) := by decide +kernel
theorem dX11_manyOf_43 : decode cX11_manyOf 43 = .ok (.imul, 1) := by decide +kernel
theorem dX11_manyOf_44 : decode cX11_manyOf 44 = .ok (.invokevirtual 225, 3) := by decide +kernel
theorem dX11_manyOf_47 : decode cX11_manyOf 47 = .ok (.ifCond .eq 7, 3) := by decide +kernel
theorem dX11_manyOf_50 : decode cX11_manyOf 50 = .ok (.iconst 1, 1) := by decide +kernel
theorem dX11_manyOf_51 : decode cX11_manyOf 51 = .ok (.goto 4, 3) := by decide +kernel
theorem dX11_manyOf_54 : decode cX11_manyOf 54 = .ok (.iconst 0, 1) := by decide +kernel
theorem dX11_manyOf_55 : decode cX11_manyOf 55 = .ok (.iadd, 1) := by decide +kernel
theorem dX11_manyOf_56 : decode cX11_manyOf 56 = .ok (.istore_n 2, 1) := by decide +kernel
theorem dX11_manyOf_57 : decode cX11_manyOf 57 = .ok (.iinc 3 1, 3) := by decide +kernel
theorem dX11_manyOf_60 : decode cX11_manyOf 60 = .ok (.goto (-56), 3) := by decide +kernel
theorem dX11_manyOf_63 : decode cX11_manyOf 63 = .ok (.iload_n 2, 1) := by decide +kernel
theorem dX11_manyOf_64 : decode cX11_manyOf 64 = .ok (.ireturn, 1) := by decide +kernel
theorem dX11_missing_0 : decode cX11_missing 0 = .ok (.iload_n 1, 1) := by decide +kernel
theorem dX11_missing_1 : decode cX11_missing 1 = .ok (.invokestatic 72, 3) := by decide +kernel
theorem dX11_missing_4 : decode cX11_missing 4 = .ok (.ifCond .ne 5, 3) := by decide +kernel
theorem dX11_missing_7 : decode cX11_missing 7 = .ok (.iconst (-1), 1) := by decide +kernel
theorem dX11_missing_8 : decode cX11_missing 8 = .ok (.ireturn, 1) := by decide +kernel
theorem dX11_missing_9 : decode cX11_missing 9 = .ok (.aload_n 0, 1) := by decide +kernel
theorem dX11_missing_10 : decode cX11_missing 10 = .ok (.getfield 9, 3) := by decide +kernel
theorem dX11_missing_13 : decode cX11_missing 13 = .ok (.bipush 12, 2) := by decide +kernel
theorem dX11_missing_15 : decode cX11_missing 15 = .ok (.iload_n 1, 1) := by decide +kernel
theorem dX11_missing_16 : decode cX11_missing 16 = .ok (.iadd, 1) := by decide +kernel
theorem dX11_missing_17 : decode cX11_missing 17 = .ok (.iaload, 1) := by decide +kernel
theorem dX11_missing_18 : decode cX11_missing 18 = .ok (.ifCond .gt 27, 3) := by decide +kernel
theorem dX11_missing_21 : decode cX11_missing 21 = .ok (.aload_n 0, 1) := by decide +kernel
theorem dX11_missing_22 : decode cX11_missing 22 = .ok (.getfield 9, 3) := by decide +kernel
theorem dX11_missing_25 : decode cX11_missing 25 = .ok (.bipush 18, 2) := by decide +kernel
theorem dX11_missing_27 : decode cX11_missing 27 = .ok (.iload_n 1, 1) := by decide +kernel
theorem dX11_missing_28 : decode cX11_missing 28 = .ok (.iadd, 1) := by decide +kernel
theorem dX11_missing_29 : decode cX11_missing 29 = .ok (.iaload, 1) := by decide +kernel
theorem dX11_missing_30 : decode cX11_missing 30 = .ok (.ifCond .gt 15, 3) := by decide +kernel
theorem dX11_missing_33 : decode cX11_missing 33 = .ok (.aload_n 0, 1) := by decide +kernel
theorem dX11_missing_34 : decode cX11_missing 34 = .ok (.getfield 9, 3) := by decide +kernel
theorem dX11_missing_37 : decode cX11_missing 37 = .ok (.bipush 33, 2) := by decide +kernel
theorem dX11_missing_39 : decode cX11_missing 39 = .ok (.iload_n 1, 1) := by decide +kernel
theorem dX11_missing_40 : decode cX11_missing 40 = .ok (.iadd, 1) := by decide +kernel
theorem dX11_missing_41 : decode cX11_missing 41 = .ok (.iaload, 1) := by decide +kernel
theorem dX11_missing_42 : decode cX11_missing 42 = .ok (.ifCond .le 6, 3) := by decide +kernel
theorem dX11_missing_45 : decode cX11_missing 45 = .ok (.bipush (-3), 2) := by decide +kernel
theorem dX11_missing_47 : decode cX11_missing 47 = .ok (.ireturn, 1) := by decide +kernel
theorem dX11_missing_48 : decode cX11_missing 48 = .ok (.aload_n 0, 1) := by decide +kernel
theorem dX11_missing_49 : decode cX11_missing 49 = .ok (.getfield 9, 3) := by decide +kernel
theorem dX11_missing_52 : decode cX11_missing 52 = .ok (.bipush 53, 2) := by decide +kernel
theorem dX11_missing_54 : decode cX11_missing 54 = .ok (.iload_n 1, 1) := by decide +kernel
theorem dX11_missing_55 : decode cX11_missing 55 = .ok (.iadd, 1) := by decide +kernel
theorem dX11_missing_56 : decode cX11_missing 56 = .ok (.iaload, 1) := by decide +kernel
theorem dX11_missing_57 : decode cX11_missing 57 = .ok (.istore_n 3, 1) := by decide +kernel
theorem dX11_missing_58 : decode cX11_missing 58 = .ok (.aload_n 0, 1) := by decide +kernel
theorem dX11_missing_59 : decode cX11_missing 59 = .ok (.getfield 9, 3) := by decide +kernel
theorem dX11_missing_62 : decode cX11_missing 62 = .ok (.bipush 53, 2) := by decide +kernel
theorem dX11_missing_64 : decode cX11_missing 64 = .ok (.iload_n 1, 1) := by decide +kernel
theorem dX11_missing_65 : decode cX11_missing 65 = .ok (.iadd, 1) := by decide +kernel
theorem dX11_missing_66 : decode cX11_missing 66 = .ok (.iload_n 2, 1) := by decide +kernel
theorem dX11_missing_67 : decode cX11_missing 67 = .ok (.ifCond .eq 7, 3) := by decide +kernel
theorem dX11_missing_70 : decode cX11_missing 70 = .ok (.iconst 1, 1) := by decide +kernel
theorem dX11_missing_71 : decode cX11_missing 71 = .ok (.goto 4, 3) := by decide +kernel
theorem dX11_missing_74 : decode cX11_missing 74 = .ok (.iconst 0, 1) := by decide +kernel
theorem dX11_missing_75 : decode cX11_missing 75 = .ok (.iastore, 1) := by decide +kernel
theorem dX11_missing_76 : decode cX11_missing 76 = .ok (.iload_n 3, 1) := by decide +kernel
theorem dX11_missing_77 : decode cX11_missing 77 = .ok (.ireturn, 1) := by decide +kernel
theorem dX11_monitors_0 : decode cX11_monitors 0 = .ok (.aload_n 0, 1) := by decide +kernel
theorem dX11_monitors_1 : decode cX11_monitors 1 = .ok (.getfield 9, 3) := by decide +kernel
theorem dX11_monitors_4 : decode cX11_monitors 4 = .ok (.bipush 53, 2) := by decide +kernel
theorem dX11_monitors_6 : decode cX11_monitors 6 = .ok (.iload_n 3, 1) := by decide +kernel
theorem dX11_monitors_7 : decode cX11_monitors 7 = .ok (.iadd, 1) := by decide +kernel
theorem dX11_monitors_8 : decode cX11_monitors 8 = .ok (.iaload, 1) := by decide +kernel
theorem dX11_monitors_9 : decode cX11_monitors 9 = .ok (.iconst 1, 1) := by decide +kernel
theorem dX11_monitors_10 : decode cX11_monitors 10 = .ok (.if_icmp .ne 11, 3) := by decide +kernel
theorem dX11_monitors_13 : decode cX11_monitors 13 = .ok (.aload_n 0, 1) := by decide +kernel
theorem dX11_monitors_14 : decode cX11_monitors 14 = .ok (.iconst 1, 1) := by decide +kernel
theorem dX11_monitors_15 : decode cX11_monitors 15 = .ok (.putfield 166, 3) := by decide +kernel
theorem dX11_monitors_18 : decode cX11_monitors 18 = .ok (.goto 136, 3) := by decide +kernel
theorem dX11_monitors_21 : decode cX11_monitors 21 = .ok (.iload_n 2, 1) := by decide +kernel
theorem dX11_monitors_22 : decode cX11_monitors 22 = .ok (.ifCond .ne 12, 3) := by decide +kernel
theorem dX11_monitors_25 : decode cX11_monitors 25 = .ok (.aload_n 0, 1) := by decide +kernel
theorem dX11_monitors_26 : decode cX11_monitors 26 = .ok (.iload_n 1, 1) := by decide +kernel
theorem dX11_monitors_27 : decode cX11_monitors 27 = .ok (.iload_n 3, 1) := by decide +kernel
theorem dX11_monitors_28 : decode cX11_monitors 28 = .ok (.invokevirtual 173, 3) := by decide +kernel
theorem dX11_monitors_31 : decode cX11_monitors 31 = .ok (.goto 123, 3) := by decide +kernel
theorem dX11_monitors_34 : decode cX11_monitors 34 = .ok (.aload_n 0, 1) := by decide +kernel
theorem dX11_monitors_35 : decode cX11_monitors 35 = .ok (.iload_n 1, 1) := by decide +kernel
theorem dX11_monitors_36 : decode cX11_monitors 36 = .ok (.iload_n 3, 1) := by decide +kernel
theorem dX11_monitors_37 : decode cX11_monitors 37 = .ok (.invokevirtual 160, 3) := by decide +kernel
theorem dX11_monitors_40 : decode cX11_monitors 40 = .ok (.ifCond .ne 11, 3) := by decide +kernel
theorem dX11_monitors_43 : decode cX11_monitors 43 = .ok (.aload_n 0, 1) := by decide +kernel
theorem dX11_monitors_44 : decode cX11_monitors 44 = .ok (.iconst 2, 1) := by decide +kernel
theorem dX11_monitors_45 : decode cX11_monitors 45 = .ok (.putfield 166, 3) := by decide +kernel
theorem dX11_monitors_48 : decode cX11_monitors 48 = .ok (.goto 106, 3) := by decide +kernel
theorem dX11_monitors_51 : decode cX11_monitors 51 = .ok (.iload_n 2, 1) := by decide +kernel
theorem dX11_monitors_52 : decode cX11_monitors 52 = .ok (.iconst 1, 1) := by decide +kernel
theorem dX11_monitors_53 : decode cX11_monitors 53 = .ok (.if_icmp .ne 36, 3) := by decide +kernel
theorem dX11_monitors_56 : decode cX11_monitors 56 = .ok (.aload_n 0, 1) := by decide +kernel
theorem dX11_monitors_57 : decode cX11_monitors 57 = .ok (.getfield 16, 3) := by decide +kernel
theorem dX11_monitors_60 : decode cX11_monitors 60 = .ok (.bipush 15, 2) := by decide +kernel
theorem dX11_monitors_62 : decode cX11_monitors 62 = .ok (.iload_n 3, 1) := by decide +kernel
theorem dX11_monitors_63 : decode cX11_monitors 63 = .ok (.iadd, 1) := by decide +kernel
theorem dX11_monitors_64 : decode cX11_monitors 64 = .ok (.dup2, 1) := by decide +kernel
theorem dX11_monitors_65 : decode cX11_monitors 65 = .ok (.iaload, 1) := by decide +kernel
theorem dX11_monitors_66 : decode cX11_monitors 66 = .ok (.iconst 1, 1) := by decide +kernel
theorem dX11_monitors_67 : decode cX11_monitors 67 = .ok (.isub, 1) := by decide +kernel
theorem dX11_monitors_68 : decode cX11_monitors 68 = .ok (.iastore, 1) := by decide +kernel
theorem dX11_monitors_69 : decode cX11_monitors 69 = .ok (.aload_n 0, 1) := by decide +kernel
theorem dX11_monitors_70 : decode cX11_monitors 70 = .ok (.getfield 16, 3) := by decide +kernel
theorem dX11_monitors_73 : decode cX11_monitors 73 = .ok (.bipush 15, 2) := by decide +kernel
theorem dX11_monitors_75 : decode cX11_monitors 75 = .ok (.iload_n 3, 1) := by decide +kernel
theorem dX11_monitors_76 : decode cX11_monitors 76 = .ok (.iadd, 1) := by decide +kernel
theorem dX11_monitors_77 : decode cX11_monitors 77 = .ok (.iaload, 1) := by decide +kernel
theorem dX11_monitors_78 : decode cX11_monitors 78 = .ok (.ifCond .ne 76, 3) := by decide +kernel
theorem dX11_monitors_81 : decode cX11_monitors 81 = .ok (.aload_n 0, 1) := by decide +kernel
theorem dX11_monitors_82 : decode cX11_monitors 82 = .ok (.iload_n 3, 1) := by decide +kernel
theorem dX11_monitors_83 : decode cX11_monitors 83 = .ok (.invokevirtual 163, 3) := by decide +kernel
theorem dX11_monitors_86 : decode cX11_monitors 86 = .ok (.goto 68, 3) := by decide +kernel
theorem dX11_monitors_89 : decode cX11_monitors 89 = .ok (.iload_n 2, 1) := by decide +kernel
theorem dX11_monitors_90 : decode cX11_monitors 90 = .ok (.iconst 2, 1) := by decide +kernel
theorem dX11_monitors_91 : decode cX11_monitors 91 = .ok (.if_icmp .ne 48, 3) := by decide +kernel
theorem dX11_monitors_94 : decode cX11_monitors 94 = .ok (.aload_n 0, 1) := by decide +kernel
theorem dX11_monitors_95 : decode cX11_monitors 95 = .ok (.getfield 16, 3) := by decide +kernel
theorem dX11_monitors_98 : decode cX11_monitors 98 = .ok (.iconst 4, 1) := by decide +kernel
theorem dX11_monitors_99 : decode cX11_monitors 99 = .ok (.iload_n 1, 1) := by decide +kernel
theorem dX11_monitors_100 : decode cX11_monitors 100 = .ok (.iadd, 1) := by decide +kernel
theorem dX11_monitors_101 : decode cX11_monitors 101 = .ok (.iconst 2, 1) := by decide +kernel
theorem dX11_monitors_102 : decode cX11_monitors 102 = .ok (.iastore, 1) := by decide +kernel
theorem dX11_monitors_103 : decode cX11_monitors 103 = .ok (.aload_n 0, 1) := by decide +kernel
theorem dX11_monitors_104 : decode cX11_monitors 104 = .ok (.getfield 16, 3) := by decide +kernel
theorem dX11_monitors_107 : decode cX11_monitors 107 = .ok (.bipush 8, 2) := by decide +kernel
theorem dX11_monitors_109 : decode cX11_monitors 109 = .ok (.iload_n 1, 1) := by decide +kernel
theorem dX11_monitors_110 : decode cX11_monitors 110 = .ok (.iadd, 1) := by decide +kernel
theorem dX11_monitors_111 : decode cX11_monitors 111 = .ok (.aload_n 0, 1) := by decide +kernel
theorem dX11_monitors_112 : decode cX11_monitors 112 = .ok (.getfield 16, 3) := by decide +kernel
theorem dX11_monitors_115 : decode cX11_monitors 115 = .ok (.bipush 15, 2) := by decide +kernel
theorem dX11_monitors_117 : decode cX11_monitors 117 = .ok (.iload_n 3, 1) := by decide +kernel
theorem dX11_monitors_118 : decode cX11_monitors 118 = .ok (.iadd, 1) := by decide +kernel
theorem dX11_monitors_119 : decode cX11_monitors 119 = .ok (.iaload, 1) := by decide +kernel
theorem dX11_monitors_120 : decode cX11_monitors 120 = .ok (.iastore, 1) := by decide +kernel
theorem dX11_monitors_121 : decode cX11_monitors 121 = .ok (.aload_n 0, 1) := by decide +kernel
theorem dX11_monitors_122 : decode cX11_monitors 122 = .ok (.bipush 33, 2) := by decide +kernel
theorem dX11_monitors_124 : decode cX11_monitors 124 = .ok (.bipush 36, 2) := by decide +kernel
theorem dX11_monitors_126 : decode cX11_monitors 126 = .ok (.iload_n 3, 1) := by decide +kernel
theorem dX11_monitors_127 : decode cX11_monitors 127 = .ok (.iload_n 1, 1) := by decide +kernel
theorem dX11_monitors_128 : decode cX11_monitors 128 = .ok (.invokevirtual 169, 3) := by decide +kernel
theorem dX11_monitors_131 : decode cX11_monitors 131 = .ok (.aload_n 0, 1) := by decide +kernel
theorem dX11_monitors_132 : decode cX11_monitors 132 = .ok (.iload_n 3, 1) := by decide +kernel
theorem dX11_monitors_133 : decode cX11_monitors 133 = .ok (.invokevirtual 163, 3) := by decide +kernel
theorem dX11_monitors_136 : decode cX11_monitors 136 = .ok (.goto 18, 3) := by decide +kernel
theorem dX11_monitors_139 : decode cX11_monitors 139 = .ok (.aload_n 0, 1) := by decide +kernel
theorem dX11_monitors_140 : decode cX11_monitors 140 = .ok (.iload_n 3, 1) := by decide +kernel
theorem dX11_monitors_141 : decode cX11_monitors 141 = .ok (.iload_n 2, 1) := by decide +kernel
theorem dX11_monitors_142 : decode cX11_monitors 142 = .ok (.iconst 4, 1) := by decide +kernel
theorem dX11_monitors_143 : decode cX11_monitors 143 = .ok (.if_icmp .ne 7, 3) := by decide +kernel
theorem dX11_monitors_146 : decode cX11_monitors 146 = .ok (.iconst 1, 1) := by decide +kernel
theorem dX11_monitors_147 : decode cX11_monitors 147 = .ok (.goto 4, 3) := by decide +kernel
theorem dX11_monitors_150 : decode cX11_monitors 150 = .ok (.iconst 0, 1) := by decide +kernel
theorem dX11_monitors_151 : decode cX11_monitors 151 = .ok (.invokevirtual 177, 3) := by decide +kernel
theorem dX11_monitors_154 : decode cX11_monitors 154 = .ok (.return_, 1) := by decide +kernel
theorem dX11_must_0 : decode cX11_must 0 = .ok (.aload_n 0, 1) := by decide +kernel
theorem dX11_must_1 : decode cX11_must 1 = .ok (.aload_n 0, 1) := by decide +kernel
theorem dX11_must_2 : decode cX11_must 2 = .ok (.getfield 92, 3) := by decide +kernel
theorem dX11_must_5 : decode cX11_must 5 = .ok (.ifCond .ge 11, 3) := by decide +kernel
theorem dX11_must_8 : decode cX11_must 8 = .ok (.iload_n 1, 1) := by decide +kernel
theorem dX11_must_9 : decode cX11_must 9 = .ok (.ifCond .ne 7, 3) := by decide +kernel
theorem dX11_must_12 : decode cX11_must 12 = .ok (.iload_n 2, 1) := by decide +kernel
theorem dX11_must_13 : decode cX11_must 13 = .ok (.goto 7, 3) := by decide +kernel
theorem dX11_must_16 : decode cX11_must 16 = .ok (.aload_n 0, 1) := by decide +kernel
theorem dX11_must_17 : decode cX11_must 17 = .ok (.getfield 92, 3) := by decide +kernel
theorem dX11_must_20 : decode cX11_must 20 = .ok (.putfield 92, 3) := by decide +kernel
theorem dX11_must_23 : decode cX11_must 23 = .ok (.return_, 1) := by decide +kernel
theorem dX11_notifies_0 : decode cX11_notifies 0 = .ok (.aload_n 0, 1) := by decide +kernel
theorem dX11_notifies_1 : decode cX11_notifies 1 = .ok (.getfield 16, 3) := by decide +kernel
theorem dX11_notifies_4 : decode cX11_notifies 4 = .ok (.bipush 33, 2) := by decide +kernel
theorem dX11_notifies_6 : decode cX11_notifies 6 = .ok (.iload_n 1, 1) := by decide +kernel
theorem dX11_notifies_7 : decode cX11_notifies 7 = .ok (.iadd, 1) := by decide +kernel
theorem dX11_notifies_8 : decode cX11_notifies 8 = .ok (.iaload, 1) := by decide +kernel
theorem dX11_notifies_9 : decode cX11_notifies 9 = .ok (.ifCond .ne 7, 3) := by decide +kernel
theorem dX11_notifies_12 : decode cX11_notifies 12 = .ok (.iconst 0, 1) := by decide +kernel
theorem dX11_notifies_13 : decode cX11_notifies 13 = .ok (.goto 20, 3) := by decide +kernel
theorem dX11_notifies_16 : decode cX11_notifies 16 = .ok (.iload_n 2, 1) := by decide +kernel
theorem dX11_notifies_17 : decode cX11_notifies 17 = .ok (.ifCond .eq 15, 3) := by decide +kernel
theorem dX11_notifies_20 : decode cX11_notifies 20 = .ok (.aload_n 0, 1) := by decide +kernel
theorem dX11_notifies_21 : decode cX11_notifies 21 = .ok (.getfield 16, 3) := by decide +kernel
theorem dX11_notifies_24 : decode cX11_notifies 24 = .ok (.bipush 33, 2) := by decide +kernel
theorem dX11_notifies_26 : decode cX11_notifies 26 = .ok (.iload_n 1, 1) := by decide +kernel
theorem dX11_notifies_27 : decode cX11_notifies 27 = .ok (.iadd, 1) := by decide +kernel
theorem dX11_notifies_28 : decode cX11_notifies 28 = .ok (.iaload, 1) := by decide +kernel
theorem dX11_notifies_29 : decode cX11_notifies 29 = .ok (.goto 4, 3) := by decide +kernel
theorem dX11_notifies_32 : decode cX11_notifies 32 = .ok (.iconst 1, 1) := by decide +kernel
theorem dX11_notifies_33 : decode cX11_notifies 33 = .ok (.istore_n 3, 1) := by decide +kernel
theorem dX11_notifies_34 : decode cX11_notifies 34 = .ok (.iconst 0, 1) := by decide +kernel
theorem dX11_notifies_35 : decode cX11_notifies 35 = .ok (.istore 4, 2) := by decide +kernel
theorem dX11_notifies_37 : decode cX11_notifies 37 = .ok (.iload 4, 2) := by decide +kernel
theorem dX11_notifies_39 : decode cX11_notifies 39 = .ok (.iload_n 3, 1) := by decide +kernel
theorem dX11_notifies_40 : decode cX11_notifies 40 = .ok (.if_icmp .ge 41, 3) := by decide +kernel
theorem dX11_notifies_43 : decode cX11_notifies 43 = .ok (.aload_n 0, 1) := by decide +kernel
theorem dX11_notifies_44 : decode cX11_notifies 44 = .ok (.bipush 33, 2) := by decide +kernel
theorem dX11_notifies_46 : decode cX11_notifies 46 = .ok (.bipush 36, 2) := by decide +kernel
theorem dX11_notifies_48 : decode cX11_notifies 48 = .ok (.iload_n 1, 1) := by decide +kernel
theorem dX11_notifies_49 : decode cX11_notifies 49 = .ok (.invokevirtual 154, 3) := by decide +kernel
theorem dX11_notifies_52 : decode cX11_notifies 52 = .ok (.istore 5, 2) := by decide +kernel
theorem dX11_notifies_54 : decode cX11_notifies 54 = .ok (.aload_n 0, 1) := by decide +kernel
theorem dX11_notifies_55 : decode cX11_notifies 55 = .ok (.getfield 16, 3) := by decide +kernel
theorem dX11_notifies_58 : decode cX11_notifies 58 = .ok (.iconst 4, 1) := by decide +kernel
theorem dX11_notifies_59 : decode cX11_notifies 59 = .ok (.iload 5, 2) := by decide +kernel
theorem dX11_notifies_61 : decode cX11_notifies 61 = .ok (.iadd, 1) := by decide +kernel
theorem dX11_notifies_62 : decode cX11_notifies 62 = .ok (.iconst 1, 1) := by decide +kernel
theorem dX11_notifies_63 : decode cX11_notifies 63 = .ok (.iastore, 1) := by decide +kernel
theorem dX11_notifies_64 : decode cX11_notifies 64 = .ok (.aload_n 0, 1) := by decide +kernel
theorem dX11_notifies_65 : decode cX11_notifies 65 = .ok (.bipush 18, 2) := by decide +kernel
theorem dX11_notifies_67 : decode cX11_notifies 67 = .ok (.bipush 21, 2) := by decide +kernel
theorem dX11_notifies_69 : decode cX11_notifies 69 = .ok (.iload_n 1, 1) := by decide +kernel
theorem dX11_notifies_70 : decode cX11_notifies 70 = .ok (.iload 5, 2) := by decide +kernel
theorem dX11_notifies_72 : decode cX11_notifies 72 = .ok (.invokevirtual 169, 3) := by decide +kernel
theorem dX11_notifies_75 : decode cX11_notifies 75 = .ok (.iinc 4 1, 3) := by decide +kernel
theorem dX11_notifies_78 : decode cX11_notifies 78 = .ok (.goto (-41), 3) := by decide +kernel
theorem dX11_notifies_81 : decode cX11_notifies 81 = .ok (.return_, 1) := by decide +kernel
theorem dX11_number_0 : decode cX11_number 0 = .ok (.aload_n 0, 1) := by decide +kernel
theorem dX11_number_1 : decode cX11_number 1 = .ok (.bipush 32, 2) := by decide +kernel
theorem dX11_number_3 : decode cX11_number 3 = .ok (.invokevirtual 111, 3) := by decide +kernel
theorem dX11_number_6 : decode cX11_number 6 = .ok (.aload_n 0, 1) := by decide +kernel
theorem dX11_number_7 : decode cX11_number 7 = .ok (.getfield 89, 3) := by decide +kernel
theorem dX11_number_10 : decode cX11_number 10 = .ok (.istore 4, 2) := by decide +kernel
theorem dX11_number_12 : decode cX11_number 12 = .ok (.iload_n 3, 1) := by decide +kernel
theorem dX11_number_13 : decode cX11_number 13 = .ok (.ifCond .eq 16, 3) := by decide +kernel
theorem dX11_number_16 : decode cX11_number 16 = .ok (.aload_n 0, 1) := by decide +kernel
theorem dX11_number_17 : decode cX11_number 17 = .ok (.invokevirtual 95, 3) := by decide +kernel
theorem dX11_number_20 : decode cX11_number 20 = .ok (.bipush 45, 2) := by decide +kernel
theorem dX11_number_22 : decode cX11_number 22 = .ok (.if_icmp .ne 7, 3) := by decide +kernel
theorem dX11_number_25 : decode cX11_number 25 = .ok (.iconst 1, 1) := by decide +kernel
theorem dX11_number_26 : decode cX11_number 26 = .ok (.goto 4, 3) := by decide +kernel
theorem dX11_number_29 : decode cX11_number 29 = .ok (.iconst 0, 1) := by decide +kernel
theorem dX11_number_30 : decode cX11_number 30 = .ok (.istore 5, 2) := by decide +kernel
theorem dX11_number_32 : decode cX11_number 32 = .ok (.aload_n 0, 1) := by decide +kernel
theorem dX11_number_33 : decode cX11_number 33 = .ok (.dup, 1) := by decide +kernel
theorem dX11_number_34 : decode cX11_number 34 = .ok (.getfield 89, 3) := by decide +kernel
theorem dX11_number_37 : decode cX11_number 37 = .ok (.iload 5, 2) := by decide +kernel
theorem dX11_number_39 : decode cX11_number 39 = .ok (.ifCond .eq 7, 3) := by decide +kernel
theorem dX11_number_42 : decode cX11_number 42 = .ok (.iconst 1, 1) := by decide +kernel
theorem dX11_number_43 : decode cX11_number 43 = .ok (.goto 4, 3) := by decide +kernel
theorem dX11_number_46 : decode cX11_number 46 = .ok (.iconst 0, 1) := by decide +kernel
theorem dX11_number_47 : decode cX11_number 47 = .ok (.iadd, 1) := by decide +kernel
theorem dX11_number_48 : decode cX11_number 48 = .ok (.putfield 89, 3) := by decide +kernel
theorem dX11_number_51 : decode cX11_number 51 = .ok (.aload_n 0, 1) := by decide +kernel
theorem dX11_number_52 : decode cX11_number 52 = .ok (.aload_n 0, 1) := by decide +kernel
theorem dX11_number_53 : decode cX11_number 53 = .ok (.invokevirtual 95, 3) := by decide +kernel
theorem dX11_number_56 : decode cX11_number 56 = .ok (.i2l, 1) := by decide +kernel
theorem dX11_number_57 : decode cX11_number 57 = .ok (.ldc2_w 115, 3) := by decide +kernel
theorem dX11_number_60 : decode cX11_number 60 = .ok (.ldc2_w 117, 3) := by decide +kernel
theorem dX11_number_63 : decode cX11_number 63 = .ok (.invokestatic 64, 3) := by decide +kernel
theorem dX11_number_66 : decode cX11_number 66 = .ok (.aload_n 0, 1) := by decide +kernel
theorem dX11_number_67 : decode cX11_number 67 = .ok (.getfield 89, 3) := by decide +kernel
theorem dX11_number_70 : decode cX11_number 70 = .ok (.invokevirtual 99, 3) := by decide +kernel
theorem dX11_number_73 : decode cX11_number 73 = .ok (.iconst 0, 1) := by decide +kernel
theorem dX11_number_74 : decode cX11_number 74 = .ok (.istore 6, 2) := by decide +kernel
theorem dX11_number_76 : decode cX11_number 76 = .ok (.iconst 0, 1) := by decide +kernel
theorem dX11_number_77 : decode cX11_number 77 = .ok (.istore 7, 2) := by decide +kernel
theorem dX11_number_79 : decode cX11_number 79 = .ok (.iload 7, 2) := by decide +kernel
theorem dX11_number_81 : decode cX11_number 81 = .ok (.iload_n 1, 1) := by decide +kernel
theorem dX11_number_82 : decode cX11_number 82 = .ok (.if_icmp .ge 51, 3) := by decide +kernel
theorem dX11_number_85 : decode cX11_number 85 = .ok (.aload_n 0, 1) := by decide +kernel
theorem dX11_number_86 : decode cX11_number 86 = .ok (.invokevirtual 95, 3) := by decide +kernel
theorem dX11_number_89 : decode cX11_number 89 = .ok (.i2l, 1) := by decide +kernel
theorem dX11_number_90 : decode cX11_number 90 = .ok (.ldc2_w 115, 3) := by decide +kernel
theorem dX11_number_93 : decode cX11_number 93 = .ok (.ldc2_w 117, 3) := by decide +kernel
theorem dX11_number_96 : decode cX11_number 96 = .ok (.invokestatic 64, 3) := by decide +kernel
theorem dX11_number_99 : decode cX11_number 99 = .ok (.ifCond .eq 34, 3) := by decide +kernel
theorem dX11_number_102 : decode cX11_number 102 = .ok (.bipush 10, 2) := by decide +kernel
theorem dX11_number_104 : decode cX11_number 104 = .ok (.iload 6, 2) := by decide +kernel
theorem dX11_number_106 : decode cX11_number 106 = .ok (.imul, 1) := by decide +kernel
theorem dX11_number_107 : decode cX11_number 107 = .ok (.aload_n 0, 1) := by decide +kernel
theorem dX11_number_108 : decode cX11_number 108 = .ok (.invokevirtual 95, 3) := by decide +kernel
theorem dX11_number_111 : decode cX11_number 111 = .ok (.iadd, 1) := by decide +kernel
theorem dX11_number_112 : decode cX11_number 112 = .ok (.bipush 48, 2) := by decide +kernel
theorem dX11_number_114 : decode cX11_number 114 = .ok (.isub, 1) := by decide +kernel
theorem dX11_number_115 : decode cX11_number 115 = .ok (.istore 6, 2) := by decide +kernel
theorem dX11_number_117 : decode cX11_number 117 = .ok (.aload_n 0, 1) := by decide +kernel
theorem dX11_number_118 : decode cX11_number 118 = .ok (.dup, 1) := by decide +kernel
theorem dX11_number_119 : decode cX11_number 119 = .ok (.getfield 89, 3) := by decide +kernel
theorem dX11_number_122 : decode cX11_number 122 = .ok (.iconst 1, 1) := by decide +kernel
theorem dX11_number_123 : decode cX11_number 123 = .ok (.iadd, 1) := by decide +kernel
theorem dX11_number_124 : decode cX11_number 124 = .ok (.putfield 89, 3) := by decide +kernel
theorem dX11_number_127 : decode cX11_number 127 = .ok (.iinc 7 1, 3) := by decide +kernel
theorem dX11_number_130 : decode cX11_number 130 = .ok (.goto (-51), 3) := by decide +kernel
theorem dX11_number_133 : decode cX11_number 133 = .ok (.aload_n 0, 1) := by decide +kernel
theorem dX11_number_134 : decode cX11_number 134 = .ok (.iload 6, 2) := by decide +kernel
theorem dX11_number_136 : decode cX11_number 136 = .ok (.iload_n 2, 1) := by decide +kernel
theorem dX11_number_137 : decode cX11_number 137 = .ok (.if_icmp .gt 7, 3) := by decide +kernel
theorem dX11_number_140 : decode cX11_number 140 = .ok (.iconst 1, 1) := by decide +kernel
theorem dX11_number_141 : decode cX11_number 141 = .ok (.goto 4, 3) := by decide +kernel
theorem dX11_number_144 : decode cX11_number 144 = .ok (.iconst 0, 1) := by decide +kernel
theorem dX11_number_145 : decode cX11_number 145 = .ok (.iload 4, 2) := by decide +kernel
theorem dX11_number_147 : decode cX11_number 147 = .ok (.invokevirtual 99, 3) := by decide +kernel
theorem dX11_number_150 : decode cX11_number 150 = .ok (.iload 5, 2) := by decide +kernel
theorem dX11_number_152 : decode cX11_number 152 = .ok (.ifCond .eq 9, 3) := by decide +kernel
theorem dX11_number_155 : decode cX11_number 155 = .ok (.iload 6, 2) := by decide +kernel
theorem dX11_number_157 : decode cX11_number 157 = .ok (.ineg, 1) := by decide +kernel
theorem dX11_number_158 : decode cX11_number 158 = .ok (.goto 5, 3) := by decide +kernel
theorem dX11_number_161 : decode cX11_number 161 = .ok (.iload 6, 2) := by decide +kernel
theorem dX11_number_163 : decode cX11_number 163 = .ok (.ireturn, 1) := by decide +kernel
theorem dX11_of_0 : decode cX11_of 0 = .ok (.aload_n 0, 1) := by decide +kernel
theorem dX11_of_1 : decode cX11_of 1 = .ok (.iload_n 1, 1) := by decide +kernel
theorem dX11_of_2 : decode cX11_of 2 = .ok (.invokevirtual 133, 3) := by decide +kernel
theorem dX11_of_5 : decode cX11_of 5 = .ok (.ifCond .ne 5, 3) := by decide +kernel
theorem dX11_of_8 : decode cX11_of 8 = .ok (.iconst (-1), 1) := by decide +kernel
theorem dX11_of_9 : decode cX11_of 9 = .ok (.ireturn, 1) := by decide +kernel
theorem dX11_of_10 : decode cX11_of 10 = .ok (.iload_n 2, 1) := by decide +kernel
theorem dX11_of_11 : decode cX11_of 11 = .ok (.tableswitch 130 0 6 #[41, 50, 57, 67, 73, 96, 119], 41) := by decide +kernel
theorem dX11_of_52 : decode cX11_of 52 = .ok (.aload_n 0, 1) := by decide +kernel
theorem dX11_of_53 : decode cX11_of 53 = .ok (.getfield 9, 3) := by decide +kernel
theorem dX11_of_56 : decode cX11_of 56 = .ok (.iconst 4, 1) := by decide +kernel
theorem dX11_of_57 : decode cX11_of 57 = .ok (.iload_n 1, 1) := by decide +kernel
theorem dX11_of_58 : decode cX11_of 58 = .ok (.iadd, 1) := by decide +kernel
theorem dX11_of_59 : decode cX11_of 59 = .ok (.iaload, 1) := by decide +kernel
theorem dX11_of_60 : decode cX11_of 60 = .ok (.ireturn, 1) := by decide +kernel
theorem dX11_of_61 : decode cX11_of 61 = .ok (.aload_n 0, 1) := by decide +kernel
theorem dX11_of_62 : decode cX11_of 62 = .ok (.getfield 9, 3) := by decide +kernel
theorem dX11_of_65 : decode cX11_of 65 = .ok (.iload_n 1, 1) := by decide +kernel
theorem dX11_of_66 : decode cX11_of 66 = .ok (.iaload, 1) := by decide +kernel
theorem dX11_of_67 : decode cX11_of 67 = .ok (.ireturn, 1) := by decide +kernel
theorem dX11_of_68 : decode cX11_of 68 = .ok (.aload_n 0, 1) := by decide +kernel
theorem dX11_of_69 : decode cX11_of 69 = .ok (.getfield 9, 3) := by decide +kernel
theorem dX11_of_72 : decode cX11_of 72 = .ok (.bipush 8, 2) := by decide +kernel
theorem dX11_of_74 : decode cX11_of 74 = .ok (.iload_n 1, 1) := by decide +kernel
theorem dX11_of_75 : decode cX11_of 75 = .ok (.iadd, 1) := by decide +kernel
theorem dX11_of_76 : decode cX11_of 76 = .ok (.iaload, 1) := by decide +kernel
theorem dX11_of_77 : decode cX11_of 77 = .ok (.ireturn, 1) := by decide +kernel
theorem dX11_of_78 : decode cX11_of 78 = .ok (.aload_n 0, 1) := by decide +kernel
theorem dX11_of_79 : decode cX11_of 79 = .ok (.iload_n 1, 1) := by decide +kernel
theorem dX11_of_80 : decode cX11_of 80 = .ok (.invokevirtual 206, 3) := by decide +kernel
theorem dX11_of_83 : decode cX11_of 83 = .ok (.ireturn, 1) := by decide +kernel
theorem dX11_of_84 : decode cX11_of 84 = .ok (.aload_n 0, 1) := by decide +kernel
theorem dX11_of_85 : decode cX11_of 85 = .ok (.getfield 9, 3) := by decide +kernel
theorem dX11_of_88 : decode cX11_of 88 = .ok (.iconst 4, 1) := by decide +kernel
theorem dX11_of_89 : decode cX11_of 89 = .ok (.iload_n 1, 1) := by decide +kernel
theorem dX11_of_90 : decode cX11_of 90 = .ok (.iadd, 1) := by decide +kernel
theorem dX11_of_91 : decode cX11_of 91 = .ok (.iaload, 1) := by decide +kernel
theorem dX11_of_92 : decode cX11_of 92 = .ok (.iconst 4, 1) := by decide +kernel
theorem dX11_of_93 : decode cX11_of 93 = .ok (.if_icmp .ne 12, 3) := by decide +kernel
theorem dX11_of_96 : decode cX11_of 96 = .ok (.aload_n 0, 1) := by decide +kernel
theorem dX11_of_97 : decode cX11_of 97 = .ok (.getfield 19, 3) := by decide +kernel
theorem dX11_of_100 : decode cX11_of 100 = .ok (.iload_n 1, 1) := by decide +kernel
theorem dX11_of_101 : decode cX11_of 101 = .ok (.iaload, 1) := by decide +kernel
theorem dX11_of_102 : decode cX11_of 102 = .ok (.goto 4, 3) := by decide +kernel
theorem dX11_of_105 : decode cX11_of 105 = .ok (.iconst 0, 1) := by decide +kernel
theorem dX11_of_106 : decode cX11_of 106 = .ok (.ireturn, 1) := by decide +kernel
theorem dX11_of_107 : decode cX11_of 107 = .ok (.aload_n 0, 1) := by decide +kernel
theorem dX11_of_108 : decode cX11_of 108 = .ok (.getfield 9, 3) := by decide +kernel
theorem dX11_of_111 : decode cX11_of 111 = .ok (.iconst 4, 1) := by decide +kernel
theorem dX11_of_112 : decode cX11_of 112 = .ok (.iload_n 1, 1) := by decide +kernel
theorem dX11_of_113 : decode cX11_of 113 = .ok (.iadd, 1) := by decide +kernel
theorem dX11_of_114 : decode cX11_of 114 = .ok (.iaload, 1) := by decide +kernel
theorem dX11_of_115 : decode cX11_of 115 = .ok (.iconst 3, 1) := by decide +kernel
theorem dX11_of_116 : decode cX11_of 116 = .ok (.if_icmp .ne 12, 3) := by decide +kernel
theorem dX11_of_119 : decode cX11_of 119 = .ok (.aload_n 0, 1) := by decide +kernel
theorem dX11_of_120 : decode cX11_of 120 = .ok (.getfield 22, 3) := by decide +kernel
theorem dX11_of_123 : decode cX11_of 123 = .ok (.iload_n 1, 1) := by decide +kernel
theorem dX11_of_124 : decode cX11_of 124 = .ok (.iaload, 1) := by decide +kernel
theorem dX11_of_125 : decode cX11_of 125 = .ok (.goto 4, 3) := by decide +kernel
theorem dX11_of_128 : decode cX11_of 128 = .ok (.iconst 0, 1) := by decide +kernel
theorem dX11_of_129 : decode cX11_of 129 = .ok (.ireturn, 1) := by decide +kernel
theorem dX11_of_130 : decode cX11_of 130 = .ok (.aload_n 0, 1) := by decide +kernel
theorem dX11_of_131 : decode cX11_of 131 = .ok (.aload_n 0, 1) := by decide +kernel
theorem dX11_of_132 : decode cX11_of 132 = .ok (.getfield 9, 3) := by decide +kernel
theorem dX11_of_135 : decode cX11_of 135 = .ok (.iconst 0, 1) := by decide +kernel
theorem dX11_of_136 : decode cX11_of 136 = .ok (.iload_n 1, 1) := by decide +kernel
theorem dX11_of_137 : decode cX11_of 137 = .ok (.invokevirtual 209, 3) := by decide +kernel
theorem dX11_of_140 : decode cX11_of 140 = .ok (.ireturn, 1) := by decide +kernel
theorem dX11_of_141 : decode cX11_of 141 = .ok (.iconst (-1), 1) := by decide +kernel
theorem dX11_of_142 : decode cX11_of 142 = .ok (.ireturn, 1) := by decide +kernel
theorem dX11_onWay_0 : decode cX11_onWay 0 = .ok (.iload_n 1, 1) := by decide +kernel
theorem dX11_onWay_1 : decode cX11_onWay 1 = .ok (.istore_n 3, 1) := by decide +kernel
theorem dX11_onWay_2 : decode cX11_onWay 2 = .ok (.aload_n 0, 1) := by decide +kernel
theorem dX11_onWay_3 : decode cX11_onWay 3 = .ok (.getfield 49, 3) := by decide +kernel
theorem dX11_onWay_6 : decode cX11_onWay 6 = .ok (.iload_n 3, 1) := by decide +kernel
theorem dX11_onWay_7 : decode cX11_onWay 7 = .ok (.iaload, 1) := by decide +kernel
theorem dX11_onWay_8 : decode cX11_onWay 8 = .ok (.iload_n 2, 1) := by decide +kernel
theorem dX11_onWay_9 : decode cX11_onWay 9 = .ok (.iconst 1, 1) := by decide +kernel
theorem dX11_onWay_10 : decode cX11_onWay 10 = .ok (.iadd, 1) := by decide +kernel
theorem dX11_onWay_11 : decode cX11_onWay 11 = .ok (.if_icmp .le 13, 3) := by decide +kernel
theorem dX11_onWay_14 : decode cX11_onWay 14 = .ok (.aload_n 0, 1) := by decide +kernel
theorem dX11_onWay_15 : decode cX11_onWay 15 = .ok (.getfield 43, 3) := by decide +kernel
theorem dX11_onWay_18 : decode cX11_onWay 18 = .ok (.iload_n 3, 1) := by decide +kernel
theorem dX11_onWay_19 : decode cX11_onWay 19 = .ok (.iaload, 1) := by decide +kernel
theorem dX11_onWay_20 : decode cX11_onWay 20 = .ok (.istore_n 3, 1) := by decide +kernel
theorem dX11_onWay_21 : decode cX11_onWay 21 = .ok (.goto (-19), 3) := by decide +kernel
theorem dX11_onWay_24 : decode cX11_onWay 24 = .ok (.aload_n 0, 1) := by decide +kernel
theorem dX11_onWay_25 : decode cX11_onWay 25 = .ok (.getfield 46, 3) := by decide +kernel
theorem dX11_onWay_28 : decode cX11_onWay 28 = .ok (.iload_n 3, 1) := by decide +kernel
theorem dX11_onWay_29 : decode cX11_onWay 29 = .ok (.iaload, 1) := by decide +kernel
theorem dX11_onWay_30 : decode cX11_onWay 30 = .ok (.ireturn, 1) := by decide +kernel
theorem dX11_outcome_0 : decode cX11_outcome 0 = .ok (.iload_n 1, 1) := by decide +kernel
theorem dX11_outcome_1 : decode cX11_outcome 1 = .ok (.ifCond .lt 10, 3) := by decide +kernel
theorem dX11_outcome_4 : decode cX11_outcome 4 = .ok (.iload_n 2, 1) := by decide +kernel
theorem dX11_outcome_5 : decode cX11_outcome 5 = .ok (.invokestatic 76, 3) := by decide +kernel
theorem dX11_outcome_8 : decode cX11_outcome 8 = .ok (.ifCond .ne 6, 3) := by decide +kernel
theorem dX11_outcome_11 : decode cX11_outcome 11 = .ok (.bipush (-100), 2) := by decide +kernel
theorem dX11_outcome_13 : decode cX11_outcome 13 = .ok (.ireturn, 1) := by decide +kernel
theorem dX11_outcome_14 : decode cX11_outcome 14 = .ok (.aload_n 0, 1) := by decide +kernel
theorem dX11_outcome_15 : decode cX11_outcome 15 = .ok (.invokevirtual 252, 3) := by decide +kernel
theorem dX11_outcome_18 : decode cX11_outcome 18 = .ok (.aload_n 0, 1) := by decide +kernel
theorem dX11_outcome_19 : decode cX11_outcome 19 = .ok (.iload_n 1, 1) := by decide +kernel
theorem dX11_outcome_20 : decode cX11_outcome 20 = .ok (.invokevirtual 268, 3) := by decide +kernel
theorem dX11_outcome_23 : decode cX11_outcome 23 = .ok (.istore_n 3, 1) := by decide +kernel
theorem dX11_outcome_24 : decode cX11_outcome 24 = .ok (.iload_n 3, 1) := by decide +kernel
theorem dX11_outcome_25 : decode cX11_outcome 25 = .ok (.ifCond .ge 8, 3) := by decide +kernel
theorem dX11_outcome_28 : decode cX11_outcome 28 = .ok (.bipush (-100), 2) := by decide +kernel
theorem dX11_outcome_30 : decode cX11_outcome 30 = .ok (.goto 17, 3) := by decide +kernel
theorem dX11_outcome_33 : decode cX11_outcome 33 = .ok (.aload_n 0, 1) := by decide +kernel
theorem dX11_outcome_34 : decode cX11_outcome 34 = .ok (.getfield 40, 3) := by decide +kernel
theorem dX11_outcome_37 : decode cX11_outcome 37 = .ok (.bipush 52, 2) := by decide +kernel
theorem dX11_outcome_39 : decode cX11_outcome 39 = .ok (.iload_n 3, 1) := by decide +kernel
theorem dX11_outcome_40 : decode cX11_outcome 40 = .ok (.imul, 1) := by decide +kernel
theorem dX11_outcome_41 : decode cX11_outcome 41 = .ok (.bipush 48, 2) := by decide +kernel
theorem dX11_outcome_43 : decode cX11_outcome 43 = .ok (.iadd, 1) := by decide +kernel
theorem dX11_outcome_44 : decode cX11_outcome 44 = .ok (.iload_n 2, 1) := by decide +kernel
theorem dX11_outcome_45 : decode cX11_outcome 45 = .ok (.iadd, 1) := by decide +kernel
theorem dX11_outcome_46 : decode cX11_outcome 46 = .ok (.iaload, 1) := by decide +kernel
theorem dX11_outcome_47 : decode cX11_outcome 47 = .ok (.ireturn, 1) := by decide +kernel
theorem dX11_outcomeAt_0 : decode cX11_outcomeAt 0 = .ok (.iconst 0, 1) := by decide +kernel
theorem dX11_outcomeAt_1 : decode cX11_outcomeAt 1 = .ok (.istore_n 2, 1) := by decide +kernel
theorem dX11_outcomeAt_2 : decode cX11_outcomeAt 2 = .ok (.iconst 0, 1) := by decide +kernel
theorem dX11_outcomeAt_3 : decode cX11_outcomeAt 3 = .ok (.istore_n 3, 1) := by decide +kernel
theorem dX11_outcomeAt_4 : decode cX11_outcomeAt 4 = .ok (.iload_n 3, 1) := by decide +kernel
theorem dX11_outcomeAt_5 : decode cX11_outcomeAt 5 = .ok (.aload_n 0, 1) := by decide +kernel
theorem dX11_outcomeAt_6 : decode cX11_outcomeAt 6 = .ok (.getfield 231, 3) := by decide +kernel
theorem dX11_outcomeAt_9 : decode cX11_outcomeAt 9 = .ok (.if_icmp .ge 27, 3) := by decide +kernel
theorem dX11_outcomeAt_12 : decode cX11_outcomeAt 12 = .ok (.aload_n 0, 1) := by decide +kernel
theorem dX11_outcomeAt_13 : decode cX11_outcomeAt 13 = .ok (.iload_n 3, 1) := by decide +kernel
theorem dX11_outcomeAt_14 : decode cX11_outcomeAt 14 = .ok (.invokevirtual 247, 3) := by decide +kernel
theorem dX11_outcomeAt_17 : decode cX11_outcomeAt 17 = .ok (.ifCond .eq 13, 3) := by decide +kernel
theorem dX11_outcomeAt_20 : decode cX11_outcomeAt 20 = .ok (.iload_n 2, 1) := by decide +kernel
theorem dX11_outcomeAt_21 : decode cX11_outcomeAt 21 = .ok (.iload_n 1, 1) := by decide +kernel
theorem dX11_outcomeAt_22 : decode cX11_outcomeAt 22 = .ok (.if_icmp .ne 5, 3) := by decide +kernel
theorem dX11_outcomeAt_25 : decode cX11_outcomeAt 25 = .ok (.iload_n 3, 1) := by decide +kernel
theorem dX11_outcomeAt_26 : decode cX11_outcomeAt 26 = .ok (.ireturn, 1) := by decide +kernel
theorem dX11_outcomeAt_27 : decode cX11_outcomeAt 27 = .ok (.iinc 2 1, 3) := by decide +kernel
theorem dX11_outcomeAt_30 : decode cX11_outcomeAt 30 = .ok (.iinc 3 1, 3) := by decide +kernel
theorem dX11_outcomeAt_33 : decode cX11_outcomeAt 33 = .ok (.goto (-29), 3) := by decide +kernel
theorem dX11_outcomeAt_36 : decode cX11_outcomeAt 36 = .ok (.iconst (-1), 1) := by decide +kernel
theorem dX11_outcomeAt_37 : decode cX11_outcomeAt 37 = .ok (.iload_n 2, 1) := by decide +kernel
theorem dX11_outcomeAt_38 : decode cX11_outcomeAt 38 = .ok (.isub, 1) := by decide +kernel
theorem dX11_outcomeAt_39 : decode cX11_outcomeAt 39 = .ok (.ireturn, 1) := by decide +kernel
theorem dX11_ownedBy_0 : decode cX11_ownedBy 0 = .ok (.iconst 0, 1) := by decide +kernel
theorem dX11_ownedBy_1 : decode cX11_ownedBy 1 = .ok (.istore 4, 2) := by decide +kernel
theorem dX11_ownedBy_3 : decode cX11_ownedBy 3 = .ok (.iconst 0, 1) := by decide +kernel
theorem dX11_ownedBy_4 : decode cX11_ownedBy 4 = .ok (.istore 5, 2) := by decide +kernel
theorem dX11_ownedBy_6 : decode cX11_ownedBy 6 = .ok (.iload 5, 2) := by decide +kernel
theorem dX11_ownedBy_8 : decode cX11_ownedBy 8 = .ok (.iconst 3, 1) := by decide +kernel
theorem dX11_ownedBy_9 : decode cX11_ownedBy 9 = .ok (.if_icmp .ge 37, 3) := by decide +kernel
theorem dX11_ownedBy_12 : decode cX11_ownedBy 12 = .ok (.iload 4, 2) := by decide +kernel
theorem dX11_ownedBy_14 : decode cX11_ownedBy 14 = .ok (.aload_n 1, 1) := by decide +kernel
theorem dX11_ownedBy_15 : decode cX11_ownedBy 15 = .ok (.iload_n 2, 1) := by decide +kernel
theorem dX11_ownedBy_16 : decode cX11_ownedBy 16 = .ok (.bipush 12, 2) := by decide +kernel
theorem dX11_ownedBy_18 : decode cX11_ownedBy 18 = .ok (.iadd, 1) := by decide +kernel
theorem dX11_ownedBy_19 : decode cX11_ownedBy 19 = .ok (.iload 5, 2) := by decide +kernel
theorem dX11_ownedBy_21 : decode cX11_ownedBy 21 = .ok (.iadd, 1) := by decide +kernel
theorem dX11_ownedBy_22 : decode cX11_ownedBy 22 = .ok (.iaload, 1) := by decide +kernel
theorem dX11_ownedBy_23 : decode cX11_ownedBy 23 = .ok (.iload_n 3, 1) := by decide +kernel
theorem dX11_ownedBy_24 : decode cX11_ownedBy 24 = .ok (.iconst 1, 1) := by decide +kernel
theorem dX11_ownedBy_25 : decode cX11_ownedBy 25 = .ok (.iadd, 1) := by decide +kernel
theorem dX11_ownedBy_26 : decode cX11_ownedBy 26 = .ok (.if_icmp .ne 10, 3) := by decide +kernel
theorem dX11_ownedBy_29 : decode cX11_ownedBy 29 = .ok (.iconst 1, 1) := by decide +kernel
theorem dX11_ownedBy_30 : decode cX11_ownedBy 30 = .ok (.iload 5, 2) := by decide +kernel
theorem dX11_ownedBy_32 : decode cX11_ownedBy 32 = .ok (.ishl, 1) := by decide +kernel
theorem dX11_ownedBy_33 : decode cX11_ownedBy 33 = .ok (.goto 4, 3) := by decide +kernel
theorem dX11_ownedBy_36 : decode cX11_ownedBy 36 = .ok (.iconst 0, 1) := by decide +kernel
theorem dX11_ownedBy_37 : decode cX11_ownedBy 37 = .ok (.ior, 1) := by decide +kernel
theorem dX11_ownedBy_38 : decode cX11_ownedBy 38 = .ok (.istore 4, 2) := by decide +kernel
theorem dX11_ownedBy_40 : decode cX11_ownedBy 40 = .ok (.iinc 5 1, 3) := by decide +kernel
theorem dX11_ownedBy_43 : decode cX11_ownedBy 43 = .ok (.goto (-37), 3) := by decide +kernel
theorem dX11_ownedBy_46 : decode cX11_ownedBy 46 = .ok (.iload 4, 2) := by decide +kernel
theorem dX11_ownedBy_48 : decode cX11_ownedBy 48 = .ok (.ireturn, 1) := by decide +kernel
theorem dX11_program_0 : decode cX11_program 0 = .ok (.aload_n 0, 1) := by decide +kernel
theorem dX11_program_1 : decode cX11_program 1 = .ok (.iload_n 1, 1) := by decide +kernel
theorem dX11_program_2 : decode cX11_program 2 = .ok (.invokevirtual 133, 3) := by decide +kernel
theorem dX11_program_5 : decode cX11_program 5 = .ok (.ifCond .ne 5, 3) := by decide +kernel
theorem dX11_program_8 : decode cX11_program 8 = .ok (.iconst (-1), 1) := by decide +kernel
theorem dX11_program_9 : decode cX11_program 9 = .ok (.ireturn, 1) := by decide +kernel
theorem dX11_program_10 : decode cX11_program 10 = .ok (.aload_n 0, 1) := by decide +kernel
theorem dX11_program_11 : decode cX11_program 11 = .ok (.getfield 9, 3) := by decide +kernel
theorem dX11_program_14 : decode cX11_program 14 = .ok (.iload_n 1, 1) := by decide +kernel
