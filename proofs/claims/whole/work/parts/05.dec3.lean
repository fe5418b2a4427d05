theorem dX8_init_0 : decode cX8_init 0 = .ok (.aload_n 0, 1) := by decide +kernel
theorem dX8_init_1 : decode cX8_init 1 = .ok (.invokespecial 1, 3) := by decide +kernel
theorem dX8_init_4 : decode cX8_init 4 = .ok (.aload_n 0, 1) := by decide +kernel
theorem dX8_init_5 : decode cX8_init 5 = .ok (.sipush 134, 3) := by decide +kernel
theorem dX8_init_8 : decode cX8_init 8 = .ok (.newarray .int, 2) := by decide +kernel
theorem dX8_init_10 : decode cX8_init 10 = .ok (.putfield 9, 3) := by decide +kernel
theorem dX8_init_13 : decode cX8_init 13 = .ok (.aload_n 0, 1) := by decide +kernel
theorem dX8_init_14 : decode cX8_init 14 = .ok (.sipush 134, 3) := by decide +kernel
theorem dX8_init_17 : decode cX8_init 17 = .ok (.newarray .int, 2) := by decide +kernel
theorem dX8_init_19 : decode cX8_init 19 = .ok (.putfield 13, 3) := by decide +kernel
theorem dX8_init_22 : decode cX8_init 22 = .ok (.aload_n 0, 1) := by decide +kernel
theorem dX8_init_23 : decode cX8_init 23 = .ok (.sipush 134, 3) := by decide +kernel
theorem dX8_init_26 : decode cX8_init 26 = .ok (.newarray .int, 2) := by decide +kernel
theorem dX8_init_28 : decode cX8_init 28 = .ok (.putfield 16, 3) := by decide +kernel
theorem dX8_init_31 : decode cX8_init 31 = .ok (.aload_n 0, 1) := by decide +kernel
theorem dX8_init_32 : decode cX8_init 32 = .ok (.bipush 7, 2) := by decide +kernel
theorem dX8_init_34 : decode cX8_init 34 = .ok (.newarray .int, 2) := by decide +kernel
theorem dX8_init_36 : decode cX8_init 36 = .ok (.putfield 19, 3) := by decide +kernel
theorem dX8_init_39 : decode cX8_init 39 = .ok (.aload_n 0, 1) := by decide +kernel
theorem dX8_init_40 : decode cX8_init 40 = .ok (.bipush 16, 2) := by decide +kernel
theorem dX8_init_42 : decode cX8_init 42 = .ok (.newarray .int, 2) := by decide +kernel
theorem dX8_init_44 : decode cX8_init 44 = .ok (.putfield 22, 3) := by decide +kernel
theorem dX8_init_47 : decode cX8_init 47 = .ok (.aload_n 0, 1) := by decide +kernel
theorem dX8_init_48 : decode cX8_init 48 = .ok (.bipush 120, 2) := by decide +kernel
theorem dX8_init_50 : decode cX8_init 50 = .ok (.newarray .int, 2) := by decide +kernel
theorem dX8_init_52 : decode cX8_init 52 = .ok (.putfield 25, 3) := by decide +kernel
theorem dX8_init_55 : decode cX8_init 55 = .ok (.aload_n 0, 1) := by decide +kernel
theorem dX8_init_56 : decode cX8_init 56 = .ok (.bipush 56, 2) := by decide +kernel
theorem dX8_init_58 : decode cX8_init 58 = .ok (.newarray .char, 2) := by decide +kernel
theorem dX8_init_60 : decode cX8_init 60 = .ok (.dup, 1) := by decide +kernel
theorem dX8_init_61 : decode cX8_init 61 = .ok (.iconst 0, 1) := by decide +kernel
theorem dX8_init_62 : decode cX8_init 62 = .ok (.bipush 116, 2) := by decide +kernel
theorem dX8_init_64 : decode cX8_init 64 = .ok (.castore, 1) := by decide +kernel
theorem dX8_init_65 : decode cX8_init 65 = .ok (.dup, 1) := by decide +kernel
theorem dX8_init_66 : decode cX8_init 66 = .ok (.iconst 1, 1) := by decide +kernel
theorem dX8_init_67 : decode cX8_init 67 = .ok (.bipush 104, 2) := by decide +kernel
theorem dX8_init_69 : decode cX8_init 69 = .ok (.castore, 1) := by decide +kernel
theorem dX8_init_70 : decode cX8_init 70 = .ok (.dup, 1) := by decide +kernel
theorem dX8_init_71 : decode cX8_init 71 = .ok (.iconst 2, 1) := by decide +kernel
theorem dX8_init_72 : decode cX8_init 72 = .ok (.bipush 105, 2) := by decide +kernel
theorem dX8_init_74 : decode cX8_init 74 = .ok (.castore, 1) := by decide +kernel
theorem dX8_init_75 : decode cX8_init 75 = .ok (.dup, 1) := by decide +kernel
theorem dX8_init_76 : decode cX8_init 76 = .ok (.iconst 3, 1) := by decide +kernel
theorem dX8_init_77 : decode cX8_init 77 = .ok (.bipush 110, 2) := by decide +kernel
theorem dX8_init_79 : decode cX8_init 79 = .ok (.castore, 1) := by decide +kernel
theorem dX8_init_80 : decode cX8_init 80 = .ok (.dup, 1) := by decide +kernel
theorem dX8_init_81 : decode cX8_init 81 = .ok (.iconst 4, 1) := by decide +kernel
theorem dX8_init_82 : decode cX8_init 82 = .ok (.bipush 103, 2) := by decide +kernel
theorem dX8_init_84 : decode cX8_init 84 = .ok (.castore, 1) := by decide +kernel
theorem dX8_init_85 : decode cX8_init 85 = .ok (.dup, 1) := by decide +kernel
theorem dX8_init_86 : decode cX8_init 86 = .ok (.iconst 5, 1) := by decide +kernel
theorem dX8_init_87 : decode cX8_init 87 = .ok (.bipush 32, 2) := by decide +kernel
theorem dX8_init_89 : decode cX8_init 89 = .ok (.castore, 1) := by decide +kernel
theorem dX8_init_90 : decode cX8_init 90 = .ok (.dup, 1) := by decide +kernel
theorem dX8_init_91 : decode cX8_init 91 = .ok (.bipush 6, 2) := by decide +kernel
theorem dX8_init_93 : decode cX8_init 93 = .ok (.bipush 32, 2) := by decide +kernel
theorem dX8_init_95 : decode cX8_init 95 = .ok (.castore, 1) := by decide +kernel
theorem dX8_init_96 : decode cX8_init 96 = .ok (.dup, 1) := by decide +kernel
theorem dX8_init_97 : decode cX8_init 97 = .ok (.bipush 7, 2) := by decide +kernel
theorem dX8_init_99 : decode cX8_init 99 = .ok (.bipush 32, 2) := by decide +kernel
theorem dX8_init_101 : decode cX8_init 101 = .ok (.castore, 1) := by decide +kernel
theorem dX8_init_102 : decode cX8_init 102 = .ok (.dup, 1) := by decide +kernel
theorem dX8_init_103 : decode cX8_init 103 = .ok (.bipush 8, 2) := by decide +kernel
theorem dX8_init_105 : decode cX8_init 105 = .ok (.bipush 102, 2) := by decide +kernel
theorem dX8_init_107 : decode cX8_init 107 = .ok (.castore, 1) := by decide +kernel
theorem dX8_init_108 : decode cX8_init 108 = .ok (.dup, 1) := by decide +kernel
theorem dX8_init_109 : decode cX8_init 109 = .ok (.bipush 9, 2) := by decide +kernel
theorem dX8_init_111 : decode cX8_init 111 = .ok (.bipush 105, 2) := by decide +kernel
theorem dX8_init_113 : decode cX8_init 113 = .ok (.castore, 1) := by decide +kernel
theorem dX8_init_114 : decode cX8_init 114 = .ok (.dup, 1) := by decide +kernel
theorem dX8_init_115 : decode cX8_init 115 = .ok (.bipush 10, 2) := by decide +kernel
theorem dX8_init_117 : decode cX8_init 117 = .ok (.bipush 115, 2) := by decide +kernel
theorem dX8_init_119 : decode cX8_init 119 = .ok (.castore, 1) := by decide +kernel
theorem dX8_init_120 : decode cX8_init 120 = .ok (.dup, 1) := by decide +kernel
theorem dX8_init_121 : decode cX8_init 121 = .ok (.bipush 11, 2) := by decide +kernel
theorem dX8_init_123 : decode cX8_init 123 = .ok (.bipush 104, 2) := by decide +kernel
theorem dX8_init_125 : decode cX8_init 125 = .ok (.castore, 1) := by decide +kernel
theorem dX8_init_126 : decode cX8_init 126 = .ok (.dup, 1) := by decide +kernel
theorem dX8_init_127 : decode cX8_init 127 = .ok (.bipush 12, 2) := by decide +kernel
theorem dX8_init_129 : decode cX8_init 129 = .ok (.bipush 32, 2) := by decide +kernel
theorem dX8_init_131 : decode cX8_init 131 = .ok (.castore, 1) := by decide +kernel
theorem dX8_init_132 : decode cX8_init 132 = .ok (.dup, 1) := by decide +kernel
theorem dX8_init_133 : decode cX8_init 133 = .ok (.bipush 13, 2) := by decide +kernel
theorem dX8_init_135 : decode cX8_init 135 = .ok (.bipush 32, 2) := by decide +kernel
theorem dX8_init_137 : decode cX8_init 137 = .ok (.castore, 1) := by decide +kernel
theorem dX8_init_138 : decode cX8_init 138 = .ok (.dup, 1) := by decide +kernel
theorem dX8_init_139 : decode cX8_init 139 = .ok (.bipush 14, 2) := by decide +kernel
theorem dX8_init_141 : decode cX8_init 141 = .ok (.bipush 32, 2) := by decide +kernel
theorem dX8_init_143 : decode cX8_init 143 = .ok (.castore, 1) := by decide +kernel
theorem dX8_init_144 : decode cX8_init 144 = .ok (.dup, 1) := by decide +kernel
theorem dX8_init_145 : decode cX8_init 145 = .ok (.bipush 15, 2) := by decide +kernel
theorem dX8_init_147 : decode cX8_init 147 = .ok (.bipush 32, 2) := by decide +kernel
theorem dX8_init_149 : decode cX8_init 149 = .ok (.castore, 1) := by decide +kernel
theorem dX8_init_150 : decode cX8_init 150 = .ok (.dup, 1) := by decide +kernel
theorem dX8_init_151 : decode cX8_init 151 = .ok (.bipush 16, 2) := by decide +kernel
theorem dX8_init_153 : decode cX8_init 153 = .ok (.bipush 100, 2) := by decide +kernel
theorem dX8_init_155 : decode cX8_init 155 = .ok (.castore, 1) := by decide +kernel
theorem dX8_init_156 : decode cX8_init 156 = .ok (.dup, 1) := by decide +kernel
theorem dX8_init_157 : decode cX8_init 157 = .ok (.bipush 17, 2) := by decide +kernel
theorem dX8_init_159 : decode cX8_init 159 = .ok (.bipush 117, 2) := by decide +kernel
theorem dX8_init_161 : decode cX8_init 161 = .ok (.castore, 1) := by decide +kernel
theorem dX8_init_162 : decode cX8_init 162 = .ok (.dup, 1) := by decide +kernel
theorem dX8_init_163 : decode cX8_init 163 = .ok (.bipush 18, 2) := by decide +kernel
theorem dX8_init_165 : decode cX8_init 165 = .ok (.bipush 99, 2) := by decide +kernel
theorem dX8_init_167 : decode cX8_init 167 = .ok (.castore, 1) := by decide +kernel
theorem dX8_init_168 : decode cX8_init 168 = .ok (.dup, 1) := by decide +kernel
theorem dX8_init_169 : decode cX8_init 169 = .ok (.bipush 19, 2) := by decide +kernel
theorem dX8_init_171 : decode cX8_init 171 = .ok (.bipush 107, 2) := by decide +kernel
theorem dX8_init_173 : decode cX8_init 173 = .ok (.castore, 1) := by decide +kernel
theorem dX8_init_174 : decode cX8_init 174 = .ok (.dup, 1) := by decide +kernel
theorem dX8_init_175 : decode cX8_init 175 = .ok (.bipush 20, 2) := by decide +kernel
theorem dX8_init_177 : decode cX8_init 177 = .ok (.bipush 32, 2) := by decide +kernel
theorem dX8_init_179 : decode cX8_init 179 = .ok (.castore, 1) := by decide +kernel
theorem dX8_init_180 : decode cX8_init 180 = .ok (.dup, 1) := by decide +kernel
theorem dX8_init_181 : decode cX8_init 181 = .ok (.bipush 21, 2) := by decide +kernel
theorem dX8_init_183 : decode cX8_init 183 = .ok (.bipush 32, 2) := by decide +kernel
theorem dX8_init_185 : decode cX8_init 185 = .ok (.castore, 1) := by decide +kernel
theorem dX8_init_186 : decode cX8_init 186 = .ok (.dup, 1) := by decide +kernel
theorem dX8_init_187 : decode cX8_init 187 = .ok (.bipush 22, 2) := by decide +kernel
theorem dX8_init_189 : decode cX8_init 189 = .ok (.bipush 32, 2) := by decide +kernel
theorem dX8_init_191 : decode cX8_init 191 = .ok (.castore, 1) := by decide +kernel
theorem dX8_init_192 : decode cX8_init 192 = .ok (.dup, 1) := by decide +kernel
theorem dX8_init_193 : decode cX8_init 193 = .ok (.bipush 23, 2) := by decide +kernel
theorem dX8_init_195 : decode cX8_init 195 = .ok (.bipush 32, 2) := by decide +kernel
theorem dX8_init_197 : decode cX8_init 197 = .ok (.castore, 1) := by decide +kernel
theorem dX8_init_198 : decode cX8_init 198 = .ok (.dup, 1) := by decide +kernel
theorem dX8_init_199 : decode cX8_init 199 = .ok (.bipush 24, 2) := by decide +kernel
theorem dX8_init_201 : decode cX8_init 201 = .ok (.bipush 102, 2) := by decide +kernel
theorem dX8_init_203 : decode cX8_init 203 = .ok (.castore, 1) := by decide +kernel
theorem dX8_init_204 : decode cX8_init 204 = .ok (.dup, 1) := by decide +kernel
theorem dX8_init_205 : decode cX8_init 205 = .ok (.bipush 25, 2) := by decide +kernel
theorem dX8_init_207 : decode cX8_init 207 = .ok (.bipush 114, 2) := by decide +kernel
theorem dX8_init_209 : decode cX8_init 209 = .ok (.castore, 1) := by decide +kernel
theorem dX8_init_210 : decode cX8_init 210 = .ok (.dup, 1) := by decide +kernel
theorem dX8_init_211 : decode cX8_init 211 = .ok (.bipush 26, 2) := by decide +kernel
theorem dX8_init_213 : decode cX8_init 213 = .ok (.bipush 111, 2) := by decide +kernel
theorem dX8_init_215 : decode cX8_init 215 = .ok (.castore, 1) := by decide +kernel
theorem dX8_init_216 : decode cX8_init 216 = .ok (.dup, 1) := by decide +kernel
theorem dX8_init_217 : decode cX8_init 217 = .ok (.bipush 27, 2) := by decide +kernel
theorem dX8_init_219 : decode cX8_init 219 = .ok (.bipush 103, 2) := by decide +kernel
theorem dX8_init_221 : decode cX8_init 221 = .ok (.castore, 1) := by decide +kernel
theorem dX8_init_222 : decode cX8_init 222 = .ok (.dup, 1) := by decide +kernel
theorem dX8_init_223 : decode cX8_init 223 = .ok (.bipush 28, 2) := by decide +kernel
theorem dX8_init_225 : decode cX8_init 225 = .ok (.bipush 32, 2) := by decide +kernel
theorem dX8_init_227 : decode cX8_init 227 = .ok (.castore, 1) := by decide +kernel
theorem dX8_init_228 : decode cX8_init 228 = .ok (.dup, 1) := by decide +kernel
theorem dX8_init_229 : decode cX8_init 229 = .ok (.bipush 29, 2) := by decide +kernel
theorem dX8_init_231 : decode cX8_init 231 = .ok (.bipush 32, 2) := by decide +kernel
theorem dX8_init_233 : decode cX8_init 233 = .ok (.castore, 1) := by decide +kernel
theorem dX8_init_234 : decode cX8_init 234 = .ok (.dup, 1) := by decide +kernel
theorem dX8_init_235 : decode cX8_init 235 = .ok (.bipush 30, 2) := by decide +kernel
theorem dX8_init_237 : decode cX8_init 237 = .ok (.bipush 32, 2) := by decide +kernel
theorem dX8_init_239 : decode cX8_init 239 = .ok (.castore, 1) := by decide +kernel
theorem dX8_init_240 : decode cX8_init 240 = .ok (.dup, 1) := by decide +kernel
theorem dX8_init_241 : decode cX8_init 241 = .ok (.bipush 31, 2) := by decide +kernel
theorem dX8_init_243 : decode cX8_init 243 = .ok (.bipush 32, 2) := by decide +kernel
theorem dX8_init_245 : decode cX8_init 245 = .ok (.castore, 1) := by decide +kernel
theorem dX8_init_246 : decode cX8_init 246 = .ok (.dup, 1) := by decide +kernel
theorem dX8_init_247 : decode cX8_init 247 = .ok (.bipush 32, 2) := by decide +kernel
theorem dX8_init_249 : decode cX8_init 249 = .ok (.bipush 104, 2) := by decide +kernel
theorem dX8_init_251 : decode cX8_init 251 = .ok (.castore, 1) := by decide +kernel
theorem dX8_init_252 : decode cX8_init 252 = .ok (.dup, 1) := by decide +kernel
theorem dX8_init_253 : decode cX8_init 253 = .ok (.bipush 33, 2) := by decide +kernel
theorem dX8_init_255 : decode cX8_init 255 = .ok (.bipush 101, 2) := by decide +kernel
theorem dX8_init_257 : decode cX8_init 257 = .ok (.castore, 1) := by decide +kernel
theorem dX8_init_258 : decode cX8_init 258 = .ok (.dup, 1) := by decide +kernel
theorem dX8_init_259 : decode cX8_init 259 = .ok (.bipush 34, 2) := by decide +kernel
theorem dX8_init_261 : decode cX8_init 261 = .ok (.bipush 114, 2) := by decide +kernel
theorem dX8_init_263 : decode cX8_init 263 = .ok (.castore, 1) := by decide +kernel
theorem dX8_init_264 : decode cX8_init 264 = .ok (.dup, 1) := by decide +kernel
theorem dX8_init_265 : decode cX8_init 265 = .ok (.bipush 35, 2) := by decide +kernel
theorem dX8_init_267 : decode cX8_init 267 = .ok (.bipush 111, 2) := by decide +kernel
theorem dX8_init_269 : decode cX8_init 269 = .ok (.castore, 1) := by decide +kernel
theorem dX8_init_270 : decode cX8_init 270 = .ok (.dup, 1) := by decide +kernel
theorem dX8_init_271 : decode cX8_init 271 = .ok (.bipush 36, 2) := by decide +kernel
theorem dX8_init_273 : decode cX8_init 273 = .ok (.bipush 110, 2) := by decide +kernel
theorem dX8_init_275 : decode cX8_init 275 = .ok (.castore, 1) := by decide +kernel
theorem dX8_init_276 : decode cX8_init 276 = .ok (.dup, 1) := by decide +kernel
theorem dX8_init_277 : decode cX8_init 277 = .ok (.bipush 37, 2) := by decide +kernel
theorem dX8_init_279 : decode cX8_init 279 = .ok (.bipush 32, 2) := by decide +kernel
theorem dX8_init_281 : decode cX8_init 281 = .ok (.castore, 1) := by decide +kernel
theorem dX8_init_282 : decode cX8_init 282 = .ok (.dup, 1) := by decide +kernel
theorem dX8_init_283 : decode cX8_init 283 = .ok (.bipush 38, 2) := by decide +kernel
theorem dX8_init_285 : decode cX8_init 285 = .ok (.bipush 32, 2) := by decide +kernel
theorem dX8_init_287 : decode cX8_init 287 = .ok (.castore, 1) := by decide +kernel
theorem dX8_init_288 : decode cX8_init 288 = .ok (.dup, 1) := by decide +kernel
theorem dX8_init_289 : decode cX8_init 289 = .ok (.bipush 39, 2) := by decide +kernel
theorem dX8_init_291 : decode cX8_init 291 = .ok (.bipush 32, 2) := by decide +kernel
theorem dX8_init_293 : decode cX8_init 293 = .ok (.castore, 1) := by decide +kernel
theorem dX8_init_294 : decode cX8_init 294 = .ok (.dup, 1) := by decide +kernel
theorem dX8_init_295 : decode cX8_init 295 = .ok (.bipush 40, 2) := by decide +kernel
theorem dX8_init_297 : decode cX8_init 297 = .ok (.bipush 99, 2) := by decide +kernel
theorem dX8_init_299 : decode cX8_init 299 = .ok (.castore, 1) := by decide +kernel
theorem dX8_init_300 : decode cX8_init 300 = .ok (.dup, 1) := by decide +kernel
theorem dX8_init_301 : decode cX8_init 301 = .ok (.bipush 41, 2) := by decide +kernel
theorem dX8_init_303 : decode cX8_init 303 = .ok (.bipush 111, 2) := by decide +kernel
theorem dX8_init_305 : decode cX8_init 305 = .ok (.castore, 1) := by decide +kernel
theorem dX8_init_306 : decode cX8_init 306 = .ok (.dup, 1) := by decide +kernel
theorem dX8_init_307 : decode cX8_init 307 = .ok (.bipush 42, 2) := by decide +kernel
theorem dX8_init_309 : decode cX8_init 309 = .ok (.bipush 114, 2) := by decide +kernel
theorem dX8_init_311 : decode cX8_init 311 = .ok (.castore, 1) := by decide +kernel
theorem dX8_init_312 : decode cX8_init 312 = .ok (.dup, 1) := by decide +kernel
theorem dX8_init_313 : decode cX8_init 313 = .ok (.bipush 43, 2) := by decide +kernel
theorem dX8_init_315 : decode cX8_init 315 = .ok (.bipush 107, 2) := by decide +kernel
theorem dX8_init_317 : decode cX8_init 317 = .ok (.castore, 1) := by decide +kernel
theorem dX8_init_318 : decode cX8_init 318 = .ok (.dup, 1) := by decide +kernel
theorem dX8_init_319 : decode cX8_init 319 = .ok (.bipush 44, 2) := by decide +kernel
theorem dX8_init_321 : decode cX8_init 321 = .ok (.bipush 32, 2) := by decide +kernel
theorem dX8_init_323 : decode cX8_init 323 = .ok (.castore, 1) := by decide +kernel
theorem dX8_init_324 : decode cX8_init 324 = .ok (.dup, 1) := by decide +kernel
theorem dX8_init_325 : decode cX8_init 325 = .ok (.bipush 45, 2) := by decide +kernel
theorem dX8_init_327 : decode cX8_init 327 = .ok (.bipush 32, 2) := by decide +kernel
theorem dX8_init_329 : decode cX8_init 329 = .ok (.castore, 1) := by decide +kernel
theorem dX8_init_330 : decode cX8_init 330 = .ok (.dup, 1) := by decide +kernel
theorem dX8_init_331 : decode cX8_init 331 = .ok (.bipush 46, 2) := by decide +kernel
theorem dX8_init_333 : decode cX8_init 333 = .ok (.bipush 32, 2) := by decide +kernel
theorem dX8_init_335 : decode cX8_init 335 = .ok (.castore, 1) := by decide +kernel
theorem dX8_init_336 : decode cX8_init 336 = .ok (.dup, 1) := by decide +kernel
theorem dX8_init_337 : decode cX8_init 337 = .ok (.bipush 47, 2) := by decide +kernel
theorem dX8_init_339 : decode cX8_init 339 = .ok (.bipush 32, 2) := by decide +kernel
theorem dX8_init_341 : decode cX8_init 341 = .ok (.castore, 1) := by decide +kernel
theorem dX8_init_342 : decode cX8_init 342 = .ok (.dup, 1) := by decide +kernel
theorem dX8_init_343 : decode cX8_init 343 = .ok (.bipush 48, 2) := by decide +kernel
theorem dX8_init_345 : decode cX8_init 345 = .ok (.bipush 112, 2) := by decide +kernel
theorem dX8_init_347 : decode cX8_init 347 = .ok (.castore, 1) := by decide +kernel
theorem dX8_init_348 : decode cX8_init 348 = .ok (.dup, 1) := by decide +kernel
theorem dX8_init_349 : decode cX8_init 349 = .ok (.bipush 49, 2) := by decide +kernel
theorem dX8_init_351 : decode cX8_init 351 = .ok (.bipush 105, 2) := by decide +kernel
theorem dX8_init_353 : decode cX8_init 353 = .ok (.castore, 1) := by decide +kernel
theorem dX8_init_354 : decode cX8_init 354 = .ok (.dup, 1) := by decide +kernel
theorem dX8_init_355 : decode cX8_init 355 = .ok (.bipush 50, 2) := by decide +kernel
theorem dX8_init_357 : decode cX8_init 357 = .ok (.bipush 107, 2) := by decide +kernel
theorem dX8_init_359 : decode cX8_init 359 = .ok (.castore, 1) := by decide +kernel
theorem dX8_init_360 : decode cX8_init 360 = .ok (.dup, 1) := by decide +kernel
theorem dX8_init_361 : decode cX8_init 361 = .ok (.bipush 51, 2) := by decide +kernel
theorem dX8_init_363 : decode cX8_init 363 = .ok (.bipush 101, 2) := by decide +kernel
theorem dX8_init_365 : decode cX8_init 365 = .ok (.castore, 1) := by decide +kernel
theorem dX8_init_366 : decode cX8_init 366 = .ok (.dup, 1) := by decide +kernel
theorem dX8_init_367 : decode cX8_init 367 = .ok (.bipush 52, 2) := by decide +kernel
theorem dX8_init_369 : decode cX8_init 369 = .ok (.bipush 32, 2) := by decide +kernel
theorem dX8_init_371 : decode cX8_init 371 = .ok (.castore, 1) := by decide +kernel
theorem dX8_init_372 : decode cX8_init 372 = .ok (.dup, 1) := by decide +kernel
theorem dX8_init_373 : decode cX8_init 373 = .ok (.bipush 53, 2) := by decide +kernel
theorem dX8_init_375 : decode cX8_init 375 = .ok (.bipush 32, 2) := by decide +kernel
theorem dX8_init_377 : decode cX8_init 377 = .ok (.castore, 1) := by decide +kernel
theorem dX8_init_378 : decode cX8_init 378 = .ok (.dup, 1) := by decide +kernel
theorem dX8_init_379 : decode cX8_init 379 = .ok (.bipush 54, 2) := by decide +kernel
theorem dX8_init_381 : decode cX8_init 381 = .ok (.bipush 32, 2) := by decide +kernel
theorem dX8_init_383 : decode cX8_init 383 = .ok (.castore, 1) := by decide +kernel
theorem dX8_init_384 : decode cX8_init 384 = .ok (.dup, 1) := by decide +kernel
theorem dX8_init_385 : decode cX8_init 385 = .ok (.bipush 55, 2) := by decide +kernel
theorem dX8_init_387 : decode cX8_init 387 = .ok (.bipush 32, 2) := by decide +kernel
theorem dX8_init_389 : decode cX8_init 389 = .ok (.castore, 1) := by decide +kernel
theorem dX8_init_390 : decode cX8_init 390 = .ok (.putfield 28, 3) := by decide +kernel
theorem dX8_init_393 : decode cX8_init 393 = .ok (.aload_n 0, 1) := by decide +kernel
theorem dX8_init_394 : decode cX8_init 394 = .ok (.bipush 16, 2) := by decide +kernel
theorem dX8_init_396 : decode cX8_init 396 = .ok (.newarray .char, 2) := by decide +kernel
theorem dX8_init_398 : decode cX8_init 398 = .ok (.dup, 1) := by decide +kernel
theorem dX8_init_399 : decode cX8_init 399 = .ok (.iconst 0, 1) := by decide +kernel
theorem dX8_init_400 : decode cX8_init 400 = .ok (.bipush 105, 2) := by decide +kernel
theorem dX8_init_402 : decode cX8_init 402 = .ok (.castore, 1) := by decide +kernel
theorem dX8_init_403 : decode cX8_init 403 = .ok (.dup, 1) := by decide +kernel
theorem dX8_init_404 : decode cX8_init 404 = .ok (.iconst 1, 1) := by decide +kernel
theorem dX8_init_405 : decode cX8_init 405 = .ok (.bipush 110, 2) := by decide +kernel
theorem dX8_init_407 : decode cX8_init 407 = .ok (.castore, 1) := by decide +kernel
theorem dX8_init_408 : decode cX8_init 408 = .ok (.dup, 1) := by decide +kernel
theorem dX8_init_409 : decode cX8_init 409 = .ok (.iconst 2, 1) := by decide +kernel
theorem dX8_init_410 : decode cX8_init 410 = .ok (.bipush 32, 2) := by decide +kernel
theorem dX8_init_412 : decode cX8_init 412 = .ok (.castore, 1) := by decide +kernel
theorem dX8_init_413 : decode cX8_init 413 = .ok (.dup, 1) := by decide +kernel
theorem dX8_init_414 : decode cX8_init 414 = .ok (.iconst 3, 1) := by decide +kernel
theorem dX8_init_415 : decode cX8_init 415 = .ok (.bipush 32, 2) := by decide +kernel
theorem dX8_init_417 : decode cX8_init 417 = .ok (.castore, 1) := by decide +kernel
theorem dX8_init_418 : decode cX8_init 418 = .ok (.dup, 1) := by decide +kernel
theorem dX8_init_419 : decode cX8_init 419 = .ok (.iconst 4, 1) := by decide +kernel
theorem dX8_init_420 : decode cX8_init 420 = .ok (.bipush 32, 2) := by decide +kernel
theorem dX8_init_422 : decode cX8_init 422 = .ok (.castore, 1) := by decide +kernel
theorem dX8_init_423 : decode cX8_init 423 = .ok (.dup, 1) := by decide +kernel
theorem dX8_init_424 : decode cX8_init 424 = .ok (.iconst 5, 1) := by decide +kernel
theorem dX8_init_425 : decode cX8_init 425 = .ok (.bipush 32, 2) := by decide +kernel
theorem dX8_init_427 : decode cX8_init 427 = .ok (.castore, 1) := by decide +kernel
theorem dX8_init_428 : decode cX8_init 428 = .ok (.dup, 1) := by decide +kernel
theorem dX8_init_429 : decode cX8_init 429 = .ok (.bipush 6, 2) := by decide +kernel
theorem dX8_init_431 : decode cX8_init 431 = .ok (.bipush 32, 2) := by decide +kernel
theorem dX8_init_433 : decode cX8_init 433 = .ok (.castore, 1) := by decide +kernel
theorem dX8_init_434 : decode cX8_init 434 = .ok (.dup, 1) := by decide +kernel
theorem dX8_init_435 : decode cX8_init 435 = .ok (.bipush 7, 2) := by decide +kernel
theorem dX8_init_437 : decode cX8_init 437 = .ok (.bipush 32, 2) := by decide +kernel
theorem dX8_init_439 : decode cX8_init 439 = .ok (.castore, 1) := by decide +kernel
theorem dX8_init_440 : decode cX8_init 440 = .ok (.dup, 1) := by decide +kernel
theorem dX8_init_441 : decode cX8_init 441 = .ok (.bipush 8, 2) := by decide +kernel
theorem dX8_init_443 : decode cX8_init 443 = .ok (.bipush 108, 2) := by decide +kernel
theorem dX8_init_445 : decode cX8_init 445 = .ok (.castore, 1) := by decide +kernel
theorem dX8_init_446 : decode cX8_init 446 = .ok (.dup, 1) := by decide +kernel
theorem dX8_init_447 : decode cX8_init 447 = .ok (.bipush 9, 2) := by decide +kernel
theorem dX8_init_449 : decode cX8_init 449 = .ok (.bipush 111, 2) := by decide +kernel
theorem dX8_init_451 : decode cX8_init 451 = .ok (.castore, 1) := by decide +kernel
theorem dX8_init_452 : decode cX8_init 452 = .ok (.dup, 1) := by decide +kernel
theorem dX8_init_453 : decode cX8_init 453 = .ok (.bipush 10, 2) := by decide +kernel
theorem dX8_init_455 : decode cX8_init 455 = .ok (.bipush 110, 2) := by decide +kernel
theorem dX8_init_457 : decode cX8_init 457 = .ok (.castore, 1) := by decide +kernel
theorem dX8_init_458 : decode cX8_init 458 = .ok (.dup, 1) := by decide +kernel
theorem dX8_init_459 : decode cX8_init 459 = .ok (.bipush 11, 2) := by decide +kernel
theorem dX8_init_461 : decode cX8_init 461 = .ok (.bipush 103, 2) := by decide +kernel
theorem dX8_init_463 : decode cX8_init 463 = .ok (.castore, 1) := by decide +kernel
theorem dX8_init_464 : decode cX8_init 464 = .ok (.dup, 1) := by decide +kernel
theorem dX8_init_465 : decode cX8_init 465 = .ok (.bipush 12, 2) := by decide +kernel
theorem dX8_init_467 : decode cX8_init 467 = .ok (.bipush 32, 2) := by decide +kernel
theorem dX8_init_469 : decode cX8_init 469 = .ok (.castore, 1) := by decide +kernel
theorem dX8_init_470 : decode cX8_init 470 = .ok (.dup, 1) := by decide +kernel
theorem dX8_init_471 : decode cX8_init 471 = .ok (.bipush 13, 2) := by decide +kernel
theorem dX8_init_473 : decode cX8_init 473 = .ok (.bipush 32, 2) := by decide +kernel
theorem dX8_init_475 : decode cX8_init 475 = .ok (.castore, 1) := by decide +kernel
theorem dX8_init_476 : decode cX8_init 476 = .ok (.dup, 1) := by decide +kernel
theorem dX8_init_477 : decode cX8_init 477 = .ok (.bipush 14, 2) := by decide +kernel
theorem dX8_init_479 : decode cX8_init 479 = .ok (.bipush 32, 2) := by decide +kernel
theorem dX8_init_481 : decode cX8_init 481 = .ok (.castore, 1) := by decide +kernel
theorem dX8_init_482 : decode cX8_init 482 = .ok (.dup, 1) := by decide +kernel
theorem dX8_init_483 : decode cX8_init 483 = .ok (.bipush 15, 2) := by decide +kernel
theorem dX8_init_485 : decode cX8_init 485 = .ok (.bipush 32, 2) := by decide +kernel
theorem dX8_init_487 : decode cX8_init 487 = .ok (.castore, 1) := by decide +kernel
theorem dX8_init_488 : decode cX8_init 488 = .ok (.putfield 32, 3) := by decide +kernel
theorem dX8_init_491 : decode cX8_init 491 = .ok (.aload_n 0, 1) := by decide +kernel
theorem dX8_init_492 : decode cX8_init 492 = .ok (.bipush 24, 2) := by decide +kernel
theorem dX8_init_494 : decode cX8_init 494 = .ok (.newarray .char, 2) := by decide +kernel
theorem dX8_init_496 : decode cX8_init 496 = .ok (.dup, 1) := by decide +kernel
theorem dX8_init_497 : decode cX8_init 497 = .ok (.iconst 0, 1) := by decide +kernel
theorem dX8_init_498 : decode cX8_init 498 = .ok (.bipush 112, 2) := by decide +kernel
theorem dX8_init_500 : decode cX8_init 500 = .ok (.castore, 1) := by decide +kernel
theorem dX8_init_501 : decode cX8_init 501 = .ok (.dup, 1) := by decide +kernel
theorem dX8_init_502 : decode cX8_init 502 = .ok (.iconst 1, 1) := by decide +kernel
theorem dX8_init_503 : decode cX8_init 503 = .ok (.bipush 111, 2) := by decide +kernel
theorem dX8_init_505 : decode cX8_init 505 = .ok (.castore, 1) := by decide +kernel
theorem dX8_init_506 : decode cX8_init 506 = .ok (.dup, 1) := by decide +kernel
theorem dX8_init_507 : decode cX8_init 507 = .ok (.iconst 2, 1) := by decide +kernel
theorem dX8_init_508 : decode cX8_init 508 = .ok (.bipush 110, 2) := by decide +kernel
theorem dX8_init_510 : decode cX8_init 510 = .ok (.castore, 1) := by decide +kernel
theorem dX8_init_511 : decode cX8_init 511 = .ok (.dup, 1) := by decide +kernel
theorem dX8_init_512 : decode cX8_init 512 = .ok (.iconst 3, 1) := by decide +kernel
theorem dX8_init_513 : decode cX8_init 513 = .ok (.bipush 100, 2) := by decide +kernel
theorem dX8_init_515 : decode cX8_init 515 = .ok (.castore, 1) := by decide +kernel
theorem dX8_init_516 : decode cX8_init 516 = .ok (.dup, 1) := by decide +kernel
theorem dX8_init_517 : decode cX8_init 517 = .ok (.iconst 4, 1) := by decide +kernel
theorem dX8_init_518 : decode cX8_init 518 = .ok (.bipush 32, 2) := by decide +kernel
theorem dX8_init_520 : decode cX8_init 520 = .ok (.castore, 1) := by decide +kernel
theorem dX8_init_521 : decode cX8_init 521 = .ok (.dup, 1) := by decide +kernel
theorem dX8_init_522 : decode cX8_init 522 = .ok (.iconst 5, 1) := by decide +kernel
theorem dX8_init_523 : decode cX8_init 523 = .ok (.bipush 32, 2) := by decide +kernel
theorem dX8_init_525 : decode cX8_init 525 = .ok (.castore, 1) := by decide +kernel
theorem dX8_init_526 : decode cX8_init 526 = .ok (.dup, 1) := by decide +kernel
theorem dX8_init_527 : decode cX8_init 527 = .ok (.bipush 6, 2) := by decide +kernel
theorem dX8_init_529 : decode cX8_init 529 = .ok (.bipush 32, 2) := by decide +kernel
theorem dX8_init_531 : decode cX8_init 531 = .ok (.castore, 1) := by decide +kernel
theorem dX8_init_532 : decode cX8_init 532 = .ok (.dup, 1) := by decide +kernel
theorem dX8_init_533 : decode cX8_init 533 = .ok (.bipush 7, 2) := by decide +kernel
theorem dX8_init_535 : decode cX8_init 535 = .ok (.bipush 32, 2) := by decide +kernel
theorem dX8_init_537 : decode cX8_init 537 = .ok (.castore, 1) := by decide +kernel
theorem dX8_init_538 : decode cX8_init 538 = .ok (.dup, 1) := by decide +kernel
theorem dX8_init_539 : decode cX8_init 539 = .ok (.bipush 8, 2) := by decide +kernel
theorem dX8_init_541 : decode cX8_init 541 = .ok (.bipush 114, 2) := by decide +kernel
theorem dX8_init_543 : decode cX8_init 543 = .ok (.castore, 1) := by decide +kernel
theorem dX8_init_544 : decode cX8_init 544 = .ok (.dup, 1) := by decide +kernel
theorem dX8_init_545 : decode cX8_init 545 = .ok (.bipush 9, 2) := by decide +kernel
theorem dX8_init_547 : decode cX8_init 547 = .ok (.bipush 97, 2) := by decide +kernel
theorem dX8_init_549 : decode cX8_init 549 = .ok (.castore, 1) := by decide +kernel
theorem dX8_init_550 : decode cX8_init 550 = .ok (.dup, 1) := by decide +kernel
theorem dX8_init_551 : decode cX8_init 551 = .ok (.bipush 10, 2) := by decide +kernel
theorem dX8_init_553 : decode cX8_init 553 = .ok (.bipush 105, 2) := by decide +kernel
theorem dX8_init_555 : decode cX8_init 555 = .ok (.castore, 1) := by decide +kernel
theorem dX8_init_556 : decode cX8_init 556 = .ok (.dup, 1) := by decide +kernel
theorem dX8_init_557 : decode cX8_init 557 = .ok (.bipush 11, 2) := by decide +kernel
theorem dX8_init_559 : decode cX8_init 559 = .ok (.bipush 110, 2) := by decide +kernel
theorem dX8_init_561 : decode cX8_init 561 = .ok (.castore, 1) := by decide +kernel
theorem dX8_init_562 : decode cX8_init 562 = .ok (.dup, 1) := by decide +kernel
theorem dX8_init_563 : decode cX8_init 563 = .ok (.bipush 12, 2) := by decide +kernel
theorem dX8_init_565 : decode cX8_init 565 = .ok (.bipush 32, 2) := by decide +kernel
theorem dX8_init_567 : decode cX8_init 567 = .ok (.castore, 1) := by decide +kernel
theorem dX8_init_568 : decode cX8_init 568 = .ok (.dup, 1) := by decide +kernel
theorem dX8_init_569 : decode cX8_init 569 = .ok (.bipush 13, 2) := by decide +kernel
theorem dX8_init_571 : decode cX8_init 571 = .ok (.bipush 32, 2) := by decide +kernel
theorem dX8_init_573 : decode cX8_init 573 = .ok (.castore, 1) := by decide +kernel
theorem dX8_init_574 : decode cX8_init 574 = .ok (.dup, 1) := by decide +kernel
theorem dX8_init_575 : decode cX8_init 575 = .ok (.bipush 14, 2) := by decide +kernel
theorem dX8_init_577 : decode cX8_init 577 = .ok (.bipush 32, 2) := by decide +kernel
theorem dX8_init_579 : decode cX8_init 579 = .ok (.castore, 1) := by decide +kernel
theorem dX8_init_580 : decode cX8_init 580 = .ok (.dup, 1) := by decide +kernel
theorem dX8_init_581 : decode cX8_init 581 = .ok (.bipush 15, 2) := by decide +kernel
theorem dX8_init_583 : decode cX8_init 583 = .ok (.bipush 32, 2) := by decide +kernel
theorem dX8_init_585 : decode cX8_init 585 = .ok (.castore, 1) := by decide +kernel
theorem dX8_init_586 : decode cX8_init 586 = .ok (.dup, 1) := by decide +kernel
theorem dX8_init_587 : decode cX8_init 587 = .ok (.bipush 16, 2) := by decide +kernel
theorem dX8_init_589 : decode cX8_init 589 = .ok (.bipush 100, 2) := by decide +kernel
theorem dX8_init_591 : decode cX8_init 591 = .ok (.castore, 1) := by decide +kernel
theorem dX8_init_592 : decode cX8_init 592 = .ok (.dup, 1) := by decide +kernel
theorem dX8_init_593 : decode cX8_init 593 = .ok (.bipush 17, 2) := by decide +kernel
theorem dX8_init_595 : decode cX8_init 595 = .ok (.bipush 114, 2) := by decide +kernel
theorem dX8_init_597 : decode cX8_init 597 = .ok (.castore, 1) := by decide +kernel
theorem dX8_init_598 : decode cX8_init 598 = .ok (.dup, 1) := by decide +kernel
theorem dX8_init_599 : decode cX8_init 599 = .ok (.bipush 18, 2) := by decide +kernel
theorem dX8_init_601 : decode cX8_init 601 = .ok (.bipush 121, 2) := by decide +kernel
theorem dX8_init_603 : decode cX8_init 603 = .ok (.castore, 1) := by decide +kernel
theorem dX8_init_604 : decode cX8_init 604 = .ok (.dup, 1) := by decide +kernel
theorem dX8_init_605 : decode cX8_init 605 = .ok (.bipush 19, 2) := by decide +kernel
theorem dX8_init_607 : decode cX8_init 607 = .ok (.bipush 32, 2) := by decide +kernel
theorem dX8_init_609 : decode cX8_init 609 = .ok (.castore, 1) := by decide +kernel
theorem dX8_init_610 : decode cX8_init 610 = .ok (.dup, 1) := by decide +kernel
theorem dX8_init_611 : decode cX8_init 611 = .ok (.bipush 20, 2) := by decide +kernel
theorem dX8_init_613 : decode cX8_init 613 = .ok (.bipush 32, 2) := by decide +kernel
theorem dX8_init_615 : decode cX8_init 615 = .ok (.castore, 1) := by decide +kernel
theorem dX8_init_616 : decode cX8_init 616 = .ok (.dup, 1) := by decide +kernel
theorem dX8_init_617 : decode cX8_init 617 = .ok (.bipush 21, 2) := by decide +kernel
theorem dX8_init_619 : decode cX8_init 619 = .ok (.bipush 32, 2) := by decide +kernel
theorem dX8_init_621 : decode cX8_init 621 = .ok (.castore, 1) := by decide +kernel
theorem dX8_init_622 : decode cX8_init 622 = .ok (.dup, 1) := by decide +kernel
theorem dX8_init_623 : decode cX8_init 623 = .ok (.bipush 22, 2) := by decide +kernel
theorem dX8_init_625 : decode cX8_init 625 = .ok (.bipush 32, 2) := by decide +kernel
theorem dX8_init_627 : decode cX8_init 627 = .ok (.castore, 1) := by decide +kernel
theorem dX8_init_628 : decode cX8_init 628 = .ok (.dup, 1) := by decide +kernel
theorem dX8_init_629 : decode cX8_init 629 = .ok (.bipush 23, 2) := by decide +kernel
theorem dX8_init_631 : decode cX8_init 631 = .ok (.bipush 32, 2) := by decide +kernel
theorem dX8_init_633 : decode cX8_init 633 = .ok (.castore, 1) := by decide +kernel
theorem dX8_init_634 : decode cX8_init 634 = .ok (.putfield 35, 3) := by decide +kernel
theorem dX8_init_637 : decode cX8_init 637 = .ok (.aload_n 0, 1) := by decide +kernel
theorem dX8_init_638 : decode cX8_init 638 = .ok (.bipush 48, 2) := by decide +kernel
theorem dX8_init_640 : decode cX8_init 640 = .ok (.newarray .char, 2) := by decide +kernel
theorem dX8_init_642 : decode cX8_init 642 = .ok (.dup, 1) := by decide +kernel
theorem dX8_init_643 : decode cX8_init 643 = .ok (.iconst 0, 1) := by decide +kernel
theorem dX8_init_644 : decode cX8_init 644 = .ok (.bipush 115, 2) := by decide +kernel
theorem dX8_init_646 : decode cX8_init 646 = .ok (.castore, 1) := by decide +kernel
theorem dX8_init_647 : decode cX8_init 647 = .ok (.dup, 1) := by decide +kernel
theorem dX8_init_648 : decode cX8_init 648 = .ok (.iconst 1, 1) := by decide +kernel
theorem dX8_init_649 : decode cX8_init 649 = .ok (.bipush 104, 2) := by decide +kernel
theorem dX8_init_651 : decode cX8_init 651 = .ok (.castore, 1) := by decide +kernel
theorem dX8_init_652 : decode cX8_init 652 = .ok (.dup, 1) := by decide +kernel
theorem dX8_init_653 : decode cX8_init 653 = .ok (.iconst 2, 1) := by decide +kernel
theorem dX8_init_654 : decode cX8_init 654 = .ok (.bipush 111, 2) := by decide +kernel
theorem dX8_init_656 : decode cX8_init 656 = .ok (.castore, 1) := by decide +kernel
theorem dX8_init_657 : decode cX8_init 657 = .ok (.dup, 1) := by decide +kernel
theorem dX8_init_658 : decode cX8_init 658 = .ok (.iconst 3, 1) := by decide +kernel
theorem dX8_init_659 : decode cX8_init 659 = .ok (.bipush 119, 2) := by decide +kernel
theorem dX8_init_661 : decode cX8_init 661 = .ok (.castore, 1) := by decide +kernel
theorem dX8_init_662 : decode cX8_init 662 = .ok (.dup, 1) := by decide +kernel
theorem dX8_init_663 : decode cX8_init 663 = .ok (.iconst 4, 1) := by decide +kernel
theorem dX8_init_664 : decode cX8_init 664 = .ok (.bipush 115, 2) := by decide +kernel
theorem dX8_init_666 : decode cX8_init 666 = .ok (.castore, 1) := by decide +kernel
theorem dX8_init_667 : decode cX8_init 667 = .ok (.dup, 1) := by decide +kernel
theorem dX8_init_668 : decode cX8_init 668 = .ok (.iconst 5, 1) := by decide +kernel
theorem dX8_init_669 : decode cX8_init 669 = .ok (.bipush 32, 2) := by decide +kernel
theorem dX8_init_671 : decode cX8_init 671 = .ok (.castore, 1) := by decide +kernel
theorem dX8_init_672 : decode cX8_init 672 = .ok (.dup, 1) := by decide +kernel
theorem dX8_init_673 : decode cX8_init 673 = .ok (.bipush 6, 2) := by decide +kernel
theorem dX8_init_675 : decode cX8_init 675 = .ok (.bipush 32, 2) := by decide +kernel
theorem dX8_init_677 : decode cX8_init 677 = .ok (.castore, 1) := by decide +kernel
theorem dX8_init_678 : decode cX8_init 678 = .ok (.dup, 1) := by decide +kernel
theorem dX8_init_679 : decode cX8_init 679 = .ok (.bipush 7, 2) := by decide +kernel
theorem dX8_init_681 : decode cX8_init 681 = .ok (.bipush 32, 2) := by decide +kernel
theorem dX8_init_683 : decode cX8_init 683 = .ok (.castore, 1) := by decide +kernel
theorem dX8_init_684 : decode cX8_init 684 = .ok (.dup, 1) := by decide +kernel
theorem dX8_init_685 : decode cX8_init 685 = .ok (.bipush 8, 2) := by decide +kernel
theorem dX8_init_687 : decode cX8_init 687 = .ok (.bipush 115, 2) := by decide +kernel
theorem dX8_init_689 : decode cX8_init 689 = .ok (.castore, 1) := by decide +kernel
theorem dX8_init_690 : decode cX8_init 690 = .ok (.dup, 1) := by decide +kernel
theorem dX8_init_691 : decode cX8_init 691 = .ok (.bipush 9, 2) := by decide +kernel
theorem dX8_init_693 : decode cX8_init 693 = .ok (.bipush 105, 2) := by decide +kernel
theorem dX8_init_695 : decode cX8_init 695 = .ok (.castore, 1) := by decide +kernel
theorem dX8_init_696 : decode cX8_init 696 = .ok (.dup, 1) := by decide +kernel
theorem dX8_init_697 : decode cX8_init 697 = .ok (.bipush 10, 2) := by decide +kernel
theorem dX8_init_699 : decode cX8_init 699 = .ok (.bipush 122, 2) := by decide +kernel
theorem dX8_init_701 : decode cX8_init 701 = .ok (.castore, 1) := by decide +kernel
theorem dX8_init_702 : decode cX8_init 702 = .ok (.dup, 1) := by decide +kernel
theorem dX8_init_703 : decode cX8_init 703 = .ok (.bipush 11, 2) := by decide +kernel
theorem dX8_init_705 : decode cX8_init 705 = .ok (.bipush 101, 2) := by decide +kernel
theorem dX8_init_707 : decode cX8_init 707 = .ok (.castore, 1) := by decide +kernel
theorem dX8_init_708 : decode cX8_init 708 = .ok (.dup, 1) := by decide +kernel
theorem dX8_init_709 : decode cX8_init 709 = .ok (.bipush 12, 2) := by decide +kernel
theorem dX8_init_711 : decode cX8_init 711 = .ok (.bipush 32, 2) := by decide +kernel
theorem dX8_init_713 : decode cX8_init 713 = .ok (.castore, 1) := by decide +kernel
theorem dX8_init_714 : decode cX8_init 714 = .ok (.dup, 1) := by decide +kernel
theorem dX8_init_715 : decode cX8_init 715 = .ok (.bipush 13, 2) := by decide +kernel
theorem dX8_init_717 : decode cX8_init 717 = .ok (.bipush 32, 2) := by decide +kernel
theorem dX8_init_719 : decode cX8_init 719 = .ok (.castore, 1) := by decide +kernel
theorem dX8_init_720 : decode cX8_init 720 = .ok (.dup, 1) := by decide +kernel
theorem dX8_init_721 : decode cX8_init 721 = .ok (.bipush 14, 2) := by decide +kernel
theorem dX8_init_723 : decode cX8_init 723 = .ok (.bipush 32, 2) := by decide +kernel
theorem dX8_init_725 : decode cX8_init 725 = .ok (.castore, 1) := by decide +kernel
theorem dX8_init_726 : decode cX8_init 726 = .ok (.dup, 1) := by decide +kernel
theorem dX8_init_727 : decode cX8_init 727 = .ok (.bipush 15, 2) := by decide +kernel
theorem dX8_init_729 : decode cX8_init 729 = .ok (.bipush 32, 2) := by decide +kernel
theorem dX8_init_731 : decode cX8_init 731 = .ok (.castore, 1) := by decide +kernel
theorem dX8_init_732 : decode cX8_init 732 = .ok (.dup, 1) := by decide +kernel
theorem dX8_init_733 : decode cX8_init 733 = .ok (.bipush 16, 2) := by decide +kernel
theorem dX8_init_735 : decode cX8_init 735 = .ok (.bipush 116, 2) := by decide +kernel
theorem dX8_init_737 : decode cX8_init 737 = .ok (.castore, 1) := by decide +kernel
theorem dX8_init_738 : decode cX8_init 738 = .ok (.dup, 1) := by decide +kernel
theorem dX8_init_739 : decode cX8_init 739 = .ok (.bipush 17, 2) := by decide +kernel
theorem dX8_init_741 : decode cX8_init 741 = .ok (.bipush 117, 2) := by decide +kernel
theorem dX8_init_743 : decode cX8_init 743 = .ok (.castore, 1) := by decide +kernel
theorem dX8_init_744 : decode cX8_init 744 = .ok (.dup, 1) := by decide +kernel
theorem dX8_init_745 : decode cX8_init 745 = .ok (.bipush 18, 2) := by decide +kernel
theorem dX8_init_747 : decode cX8_init 747 = .ok (.bipush 114, 2) := by decide +kernel
theorem dX8_init_749 : decode cX8_init 749 = .ok (.castore, 1) := by decide +kernel
theorem dX8_init_750 : decode cX8_init 750 = .ok (.dup, 1) := by decide +kernel
theorem dX8_init_751 : decode cX8_init 751 = .ok (.bipush 19, 2) := by decide +kernel
theorem dX8_init_753 : decode cX8_init 753 = .ok (.bipush 110, 2) := by decide +kernel
theorem dX8_init_755 : decode cX8_init 755 = .ok (.castore, 1) := by decide +kernel
theorem dX8_init_756 : decode cX8_init 756 = .ok (.dup, 1) := by decide +kernel
theorem dX8_init_757 : decode cX8_init 757 = .ok (.bipush 20, 2) := by decide +kernel
theorem dX8_init_759 : decode cX8_init 759 = .ok (.bipush 101, 2) := by decide +kernel
theorem dX8_init_761 : decode cX8_init 761 = .ok (.castore, 1) := by decide +kernel
theorem dX8_init_762 : decode cX8_init 762 = .ok (.dup, 1) := by decide +kernel
theorem dX8_init_763 : decode cX8_init 763 = .ok (.bipush 21, 2) := by decide +kernel
theorem dX8_init_765 : decode cX8_init 765 = .ok (.bipush 100, 2) := by decide +kernel
theorem dX8_init_767 : decode cX8_init 767 = .ok (.castore, 1) := by decide +kernel
theorem dX8_init_768 : decode cX8_init 768 = .ok (.dup, 1) := by decide +kernel
theorem dX8_init_769 : decode cX8_init 769 = .ok (.bipush 22, 2) := by decide +kernel
theorem dX8_init_771 : decode cX8_init 771 = .ok (.bipush 32, 2) := by decide +kernel
theorem dX8_init_773 : decode cX8_init 773 = .ok (.castore, 1) := by decide +kernel
theorem dX8_init_774 : decode cX8_init 774 = .ok (.dup, 1) := by decide +kernel
theorem dX8_init_775 : decode cX8_init 775 = .ok (.bipush 23, 2) := by decide +kernel
theorem dX8_init_777 : decode cX8_init 777 = .ok (.bipush 32, 2) := by decide +kernel
theorem dX8_init_779 : decode cX8_init 779 = .ok (.castore, 1) := by decide +kernel
theorem dX8_init_780 : decode cX8_init 780 = .ok (.dup, 1) := by decide +kernel
theorem dX8_init_781 : decode cX8_init 781 = .ok (.bipush 24, 2) := by decide +kernel
theorem dX8_init_783 : decode cX8_init 783 = .ok (.bipush 102, 2) := by decide +kernel
theorem dX8_init_785 : decode cX8_init 785 = .ok (.castore, 1) := by decide +kernel
theorem dX8_init_786 : decode cX8_init 786 = .ok (.dup, 1) := by decide +kernel
theorem dX8_init_787 : decode cX8_init 787 = .ok (.bipush 25, 2) := by decide +kernel
theorem dX8_init_789 : decode cX8_init 789 = .ok (.bipush 108, 2) := by decide +kernel
theorem dX8_init_791 : decode cX8_init 791 = .ok (.castore, 1) := by decide +kernel
theorem dX8_init_792 : decode cX8_init 792 = .ok (.dup, 1) := by decide +kernel
theorem dX8_init_793 : decode cX8_init 793 = .ok (.bipush 26, 2) := by decide +kernel
theorem dX8_init_795 : decode cX8_init 795 = .ok (.bipush 105, 2) := by decide +kernel
theorem dX8_init_797 : decode cX8_init 797 = .ok (.castore, 1) := by decide +kernel
theorem dX8_init_798 : decode cX8_init 798 = .ok (.dup, 1) := by decide +kernel
theorem dX8_init_799 : decode cX8_init 799 = .ok (.bipush 27, 2) := by decide +kernel
theorem dX8_init_801 : decode cX8_init 801 = .ok (.bipush 112, 2) := by decide +kernel
theorem dX8_init_803 : decode cX8_init 803 = .ok (.castore, 1) := by decide +kernel
theorem dX8_init_804 : decode cX8_init 804 = .ok (.dup, 1) := by decide +kernel
theorem dX8_init_805 : decode cX8_init 805 = .ok (.bipush 28, 2) := by decide +kernel
theorem dX8_init_807 : decode cX8_init 807 = .ok (.bipush 112, 2) := by decide +kernel
theorem dX8_init_809 : decode cX8_init 809 = .ok (.castore, 1) := by decide +kernel
theorem dX8_init_810 : decode cX8_init 810 = .ok (.dup, 1) := by decide +kernel
theorem dX8_init_811 : decode cX8_init 811 = .ok (.bipush 29, 2) := by decide +kernel
theorem dX8_init_813 : decode cX8_init 813 = .ok (.bipush 101, 2) := by decide +kernel
theorem dX8_init_815 : decode cX8_init 815 = .ok (.castore, 1) := by decide +kernel
theorem dX8_init_816 : decode cX8_init 816 = .ok (.dup, 1) := by decide +kernel
theorem dX8_init_817 : decode cX8_init 817 = .ok (.bipush 30, 2) := by decide +kernel
theorem dX8_init_819 : decode cX8_init 819 = .ok (.bipush 100, 2) := by decide +kernel
theorem dX8_init_821 : decode cX8_init 821 = .ok (.castore, 1) := by decide +kernel
theorem dX8_init_822 : decode cX8_init 822 = .ok (.dup, 1) := by decide +kernel
theorem dX8_init_823 : decode cX8_init 823 = .ok (.bipush 31, 2) := by decide +kernel
theorem dX8_init_825 : decode cX8_init 825 = .ok (.bipush 32, 2) := by decide +kernel
theorem dX8_init_827 : decode cX8_init 827 = .ok (.castore, 1) := by decide +kernel
theorem dX8_init_828 : decode cX8_init 828 = .ok (.dup, 1) := by decide +kernel
theorem dX8_init_829 : decode cX8_init 829 = .ok (.bipush 32, 2) := by decide +kernel
theorem dX8_init_831 : decode cX8_init 831 = .ok (.bipush 100, 2) := by decide +kernel
theorem dX8_init_833 : decode cX8_init 833 = .ok (.castore, 1) := by decide +kernel
theorem dX8_init_834 : decode cX8_init 834 = .ok (.dup, 1) := by decide +kernel
theorem dX8_init_835 : decode cX8_init 835 = .ok (.bipush 33, 2) := by decide +kernel
theorem dX8_init_837 : decode cX8_init 837 = .ok (.bipush 105, 2) := by decide +kernel
theorem dX8_init_839 : decode cX8_init 839 = .ok (.castore, 1) := by decide +kernel
theorem dX8_init_840 : decode cX8_init 840 = .ok (.dup, 1) := by decide +kernel
theorem dX8_init_841 : decode cX8_init 841 = .ok (.bipush 34, 2) := by decide +kernel
theorem dX8_init_843 : decode cX8_init 843 = .ok (.bipush 116, 2) := by decide +kernel
theorem dX8_init_845 : decode cX8_init 845 = .ok (.castore, 1) := by decide +kernel
theorem dX8_init_846 : decode cX8_init 846 = .ok (.dup, 1) := by decide +kernel
theorem dX8_init_847 : decode cX8_init 847 = .ok (.bipush 35, 2) := by decide +kernel
theorem dX8_init_849 : decode cX8_init 849 = .ok (.bipush 99, 2) := by decide +kernel
theorem dX8_init_851 : decode cX8_init 851 = .ok (.castore, 1) := by decide +kernel
theorem dX8_init_852 : decode cX8_init 852 = .ok (.dup, 1) := by decide +kernel
theorem dX8_init_853 : decode cX8_init 853 = .ok (.bipush 36, 2) := by decide +kernel
theorem dX8_init_855 : decode cX8_init 855 = .ok (.bipush 104, 2) := by decide +kernel
theorem dX8_init_857 : decode cX8_init 857 = .ok (.castore, 1) := by decide +kernel
theorem dX8_init_858 : decode cX8_init 858 = .ok (.dup, 1) := by decide +kernel
theorem dX8_init_859 : decode cX8_init 859 = .ok (.bipush 37, 2) := by decide +kernel
theorem dX8_init_861 : decode cX8_init 861 = .ok (.bipush 32, 2) := by decide +kernel
theorem dX8_init_863 : decode cX8_init 863 = .ok (.castore, 1) := by decide +kernel
theorem dX8_init_864 : decode cX8_init 864 = .ok (.dup, 1) := by decide +kernel
theorem dX8_init_865 : decode cX8_init 865 = .ok (.bipush 38, 2) := by decide +kernel
theorem dX8_init_867 : decode cX8_init 867 = .ok (.bipush 32, 2) := by decide +kernel
theorem dX8_init_869 : decode cX8_init 869 = .ok (.castore, 1) := by decide +kernel
theorem dX8_init_870 : decode cX8_init 870 = .ok (.dup, 1) := by decide +kernel
theorem dX8_init_871 : decode cX8_init 871 = .ok (.bipush 39, 2) := by decide +kernel
theorem dX8_init_873 : decode cX8_init 873 = .ok (.bipush 32, 2) := by decide +kernel
theorem dX8_init_875 : decode cX8_init 875 = .ok (.castore, 1) := by decide +kernel
theorem dX8_init_876 : decode cX8_init 876 = .ok (.dup, 1) := by decide +kernel
theorem dX8_init_877 : decode cX8_init 877 = .ok (.bipush 40, 2) := by decide +kernel
theorem dX8_init_879 : decode cX8_init 879 = .ok (.bipush 100, 2) := by decide +kernel
theorem dX8_init_881 : decode cX8_init 881 = .ok (.castore, 1) := by decide +kernel
theorem dX8_init_882 : decode cX8_init 882 = .ok (.dup, 1) := by decide +kernel
theorem dX8_init_883 : decode cX8_init 883 = .ok (.bipush 41, 2) := by decide +kernel
theorem dX8_init_885 : decode cX8_init 885 = .ok (.bipush 101, 2) := by decide +kernel
theorem dX8_init_887 : decode cX8_init 887 = .ok (.castore, 1) := by decide +kernel
theorem dX8_init_888 : decode cX8_init 888 = .ok (.dup, 1) := by decide +kernel
theorem dX8_init_889 : decode cX8_init 889 = .ok (.bipush 42, 2) := by decide +kernel
theorem dX8_init_891 : decode cX8_init 891 = .ok (.bipush 112, 2) := by decide +kernel
theorem dX8_init_893 : decode cX8_init 893 = .ok (.castore, 1) := by decide +kernel
theorem dX8_init_894 : decode cX8_init 894 = .ok (.dup, 1) := by decide +kernel
theorem dX8_init_895 : decode cX8_init 895 = .ok (.bipush 43, 2) := by decide +kernel
theorem dX8_init_897 : decode cX8_init 897 = .ok (.bipush 116, 2) := by decide +kernel
theorem dX8_init_899 : decode cX8_init 899 = .ok (.castore, 1) := by decide +kernel
theorem dX8_init_900 : decode cX8_init 900 = .ok (.dup, 1) := by decide +kernel
theorem dX8_init_901 : decode cX8_init 901 = .ok (.bipush 44, 2) := by decide +kernel
theorem dX8_init_903 : decode cX8_init 903 = .ok (.bipush 104, 2) := by decide +kernel
theorem dX8_init_905 : decode cX8_init 905 = .ok (.castore, 1) := by decide +kernel
theorem dX8_init_906 : decode cX8_init 906 = .ok (.dup, 1) := by decide +kernel
theorem dX8_init_907 : decode cX8_init 907 = .ok (.bipush 45, 2) := by decide +kernel
theorem dX8_init_909 : decode cX8_init 909 = .ok (.bipush 32, 2) := by decide +kernel
theorem dX8_init_911 : decode cX8_init 911 = .ok (.castore, 1) := by decide +kernel
theorem dX8_init_912 : decode cX8_init 912 = .ok (.dup, 1) := by decide +kernel
theorem dX8_init_913 : decode cX8_init 913 = .ok (.bipush 46, 2) := by decide +kernel
theorem dX8_init_915 : decode cX8_init 915 = .ok (.bipush 32, 2) := by decide +kernel
theorem dX8_init_917 : decode cX8_init 917 = .ok (.castore, 1) := by decide +kernel
theorem dX8_init_918 : decode cX8_init 918 = .ok (.dup, 1) := by decide +kernel
theorem dX8_init_919 : decode cX8_init 919 = .ok (.bipush 47, 2) := by decide +kernel
theorem dX8_init_921 : decode cX8_init 921 = .ok (.bipush 32, 2) := by decide +kernel
theorem dX8_init_923 : decode cX8_init 923 = .ok (.castore, 1) := by decide +kernel
theorem dX8_init_924 : decode cX8_init 924 = .ok (.putfield 38, 3) := by decide +kernel
theorem dX8_init_927 : decode cX8_init 927 = .ok (.aload_n 0, 1) := by decide +kernel
theorem dX8_init_928 : decode cX8_init 928 = .ok (.iconst 4, 1) := by decide +kernel
theorem dX8_init_929 : decode cX8_init 929 = .ok (.newarray .int, 2) := by decide +kernel
theorem dX8_init_931 : decode cX8_init 931 = .ok (.putfield 41, 3) := by decide +kernel
theorem dX8_init_934 : decode cX8_init 934 = .ok (.aload_n 0, 1) := by decide +kernel
theorem dX8_init_935 : decode cX8_init 935 = .ok (.iconst 4, 1) := by decide +kernel
theorem dX8_init_936 : decode cX8_init 936 = .ok (.newarray .int, 2) := by decide +kernel
theorem dX8_init_938 : decode cX8_init 938 = .ok (.putfield 44, 3) := by decide +kernel
theorem dX8_init_941 : decode cX8_init 941 = .ok (.aload_n 0, 1) := by decide +kernel
theorem dX8_init_942 : decode cX8_init 942 = .ok (.sipush 160, 3) := by decide +kernel
theorem dX8_init_945 : decode cX8_init 945 = .ok (.newarray .int, 2) := by decide +kernel
theorem dX8_init_947 : decode cX8_init 947 = .ok (.putfield 47, 3) := by decide +kernel
theorem dX8_init_950 : decode cX8_init 950 = .ok (.aload_n 0, 1) := by decide +kernel
theorem dX8_init_951 : decode cX8_init 951 = .ok (.bipush 40, 2) := by decide +kernel
theorem dX8_init_953 : decode cX8_init 953 = .ok (.newarray .int, 2) := by decide +kernel
theorem dX8_init_955 : decode cX8_init 955 = .ok (.putfield 50, 3) := by decide +kernel
theorem dX8_init_958 : decode cX8_init 958 = .ok (.aload_n 0, 1) := by decide +kernel
theorem dX8_init_959 : decode cX8_init 959 = .ok (.getfield 9, 3) := by decide +kernel
theorem dX8_init_962 : decode cX8_init 962 = .ok (.iconst 2, 1) := by decide +kernel
theorem dX8_init_963 : decode cX8_init 963 = .ok (.iconst 1, 1) := by decide +kernel
theorem dX8_init_964 : decode cX8_init 964 = .ok (.iastore, 1) := by decide +kernel
theorem dX8_init_965 : decode cX8_init 965 = .ok (.iconst 0, 1) := by decide +kernel
theorem dX8_init_966 : decode cX8_init 966 = .ok (.istore_n 1, 1) := by decide +kernel
theorem dX8_init_967 : decode cX8_init 967 = .ok (.iload_n 1, 1) := by decide +kernel
theorem dX8_init_968 : decode cX8_init 968 = .ok (.bipush 16, 2) := by decide +kernel
theorem dX8_init_970 : decode cX8_init 970 = .ok (.if_icmp .ge 43, 3) := by decide +kernel
theorem dX8_init_973 : decode cX8_init 973 = .ok (.aload_n 0, 1) := by decide +kernel
theorem dX8_init_974 : decode cX8_init 974 = .ok (.iload_n 1, 1) := by decide +kernel
theorem dX8_init_975 : decode cX8_init 975 = .ok (.iconst 0, 1) := by decide +kernel
theorem dX8_init_976 : decode cX8_init 976 = .ok (.iload_n 1, 1) := by decide +kernel
theorem dX8_init_977 : decode cX8_init 977 = .ok (.iconst 1, 1) := by decide +kernel
theorem dX8_init_978 : decode cX8_init 978 = .ok (.iadd, 1) := by decide +kernel
theorem dX8_init_979 : decode cX8_init 979 = .ok (.bipush 16, 2) := by decide +kernel
theorem dX8_init_981 : decode cX8_init 981 = .ok (.irem, 1) := by decide +kernel
theorem dX8_init_982 : decode cX8_init 982 = .ok (.invokevirtual 53, 3) := by decide +kernel
theorem dX8_init_985 : decode cX8_init 985 = .ok (.aload_n 0, 1) := by decide +kernel
theorem dX8_init_986 : decode cX8_init 986 = .ok (.iload_n 1, 1) := by decide +kernel
theorem dX8_init_987 : decode cX8_init 987 = .ok (.iconst 1, 1) := by decide +kernel
theorem dX8_init_988 : decode cX8_init 988 = .ok (.iconst 3, 1) := by decide +kernel
theorem dX8_init_989 : decode cX8_init 989 = .ok (.invokevirtual 53, 3) := by decide +kernel
theorem dX8_init_992 : decode cX8_init 992 = .ok (.aload_n 0, 1) := by decide +kernel
theorem dX8_init_993 : decode cX8_init 993 = .ok (.iload_n 1, 1) := by decide +kernel
theorem dX8_init_994 : decode cX8_init 994 = .ok (.iconst 4, 1) := by decide +kernel
theorem dX8_init_995 : decode cX8_init 995 = .ok (.iload_n 1, 1) := by decide +kernel
theorem dX8_init_996 : decode cX8_init 996 = .ok (.invokevirtual 53, 3) := by decide +kernel
theorem dX8_init_999 : decode cX8_init 999 = .ok (.aload_n 0, 1) := by decide +kernel
theorem dX8_init_1000 : decode cX8_init 1000 = .ok (.iload_n 1, 1) := by decide +kernel
theorem dX8_init_1001 : decode cX8_init 1001 = .ok (.iconst 5, 1) := by decide +kernel
theorem dX8_init_1002 : decode cX8_init 1002 = .ok (.bipush 10, 2) := by decide +kernel
theorem dX8_init_1004 : decode cX8_init 1004 = .ok (.invokevirtual 53, 3) := by decide +kernel
theorem dX8_init_1007 : decode cX8_init 1007 = .ok (.iinc 1 1, 3) := by decide +kernel
theorem dX8_init_1010 : decode cX8_init 1010 = .ok (.goto (-43), 3) := by decide +kernel
theorem dX8_init_1013 : decode cX8_init 1013 = .ok (.iconst 0, 1) := by decide +kernel
theorem dX8_init_1014 : decode cX8_init 1014 = .ok (.istore_n 1, 1) := by decide +kernel
theorem dX8_init_1015 : decode cX8_init 1015 = .ok (.iload_n 1, 1) := by decide +kernel
theorem dX8_init_1016 : decode cX8_init 1016 = .ok (.bipush 10, 2) := by decide +kernel
theorem dX8_init_1018 : decode cX8_init 1018 = .ok (.if_icmp .ge 19, 3) := by decide +kernel
theorem dX8_init_1021 : decode cX8_init 1021 = .ok (.aload_n 0, 1) := by decide +kernel
theorem dX8_init_1022 : decode cX8_init 1022 = .ok (.getfield 9, 3) := by decide +kernel
theorem dX8_init_1025 : decode cX8_init 1025 = .ok (.bipush 124, 2) := by decide +kernel
theorem dX8_init_1027 : decode cX8_init 1027 = .ok (.iload_n 1, 1) := by decide +kernel
theorem dX8_init_1028 : decode cX8_init 1028 = .ok (.iadd, 1) := by decide +kernel
theorem dX8_init_1029 : decode cX8_init 1029 = .ok (.iconst (-1), 1) := by decide +kernel
theorem dX8_init_1030 : decode cX8_init 1030 = .ok (.iastore, 1) := by decide +kernel
theorem dX8_init_1031 : decode cX8_init 1031 = .ok (.iinc 1 1, 3) := by decide +kernel
theorem dX8_init_1034 : decode cX8_init 1034 = .ok (.goto (-19), 3) := by decide +kernel
theorem dX8_init_1037 : decode cX8_init 1037 = .ok (.return_, 1) := by decide +kernel
theorem dX8_no_0 : decode cX8_no 0 = .ok (.aload_n 0, 1) := by decide +kernel
theorem dX8_no_1 : decode cX8_no 1 = .ok (.getfield 19, 3) := by decide +kernel
theorem dX8_no_4 : decode cX8_no 4 = .ok (.iload_n 1, 1) := by decide +kernel
theorem dX8_no_5 : decode cX8_no 5 = .ok (.dup2, 1) := by decide +kernel
theorem dX8_no_6 : decode cX8_no 6 = .ok (.iaload, 1) := by decide +kernel
theorem dX8_no_7 : decode cX8_no 7 = .ok (.iconst 1, 1) := by decide +kernel
theorem dX8_no_8 : decode cX8_no 8 = .ok (.iadd, 1) := by decide +kernel
theorem dX8_no_9 : decode cX8_no 9 = .ok (.iastore, 1) := by decide +kernel
theorem dX8_no_10 : decode cX8_no 10 = .ok (.ldc 57, 2) := by decide +kernel
theorem dX8_no_12 : decode cX8_no 12 = .ok (.iload_n 1, 1) := by decide +kernel
theorem dX8_no_13 : decode cX8_no 13 = .ok (.isub, 1) := by decide +kernel
theorem dX8_no_14 : decode cX8_no 14 = .ok (.ireturn, 1) := by decide +kernel
theorem dX8_in1_0 : decode cX8_in1 0 = .ok (.iload_n 0, 1) := by decide +kernel
theorem dX8_in1_1 : decode cX8_in1 1 = .ok (.iload_n 1, 1) := by decide +kernel
theorem dX8_in1_2 : decode cX8_in1 2 = .ok (.if_icmp .lt 12, 3) := by decide +kernel
theorem dX8_in1_5 : decode cX8_in1 5 = .ok (.iload_n 0, 1) := by decide +kernel
theorem dX8_in1_6 : decode cX8_in1 6 = .ok (.iload_n 2, 1) := by decide +kernel
theorem dX8_in1_7 : decode cX8_in1 7 = .ok (.if_icmp .gt 7, 3) := by decide +kernel
theorem dX8_in1_10 : decode cX8_in1 10 = .ok (.iconst 1, 1) := by decide +kernel
theorem dX8_in1_11 : decode cX8_in1 11 = .ok (.goto 4, 3) := by decide +kernel
theorem dX8_in1_14 : decode cX8_in1 14 = .ok (.iconst 0, 1) := by decide +kernel
theorem dX8_in1_15 : decode cX8_in1 15 = .ok (.ireturn, 1) := by decide +kernel
theorem dX8_less_0 : decode cX8_less 0 = .ok (.iload_n 0, 1) := by decide +kernel
theorem dX8_less_1 : decode cX8_less 1 = .ok (.iload_n 1, 1) := by decide +kernel
theorem dX8_less_2 : decode cX8_less 2 = .ok (.if_icmp .ge 7, 3) := by decide +kernel
theorem dX8_less_5 : decode cX8_less 5 = .ok (.iload_n 0, 1) := by decide +kernel
theorem dX8_less_6 : decode cX8_less 6 = .ok (.goto 4, 3) := by decide +kernel
theorem dX8_less_9 : decode cX8_less 9 = .ok (.iload_n 1, 1) := by decide +kernel
theorem dX8_less_10 : decode cX8_less 10 = .ok (.ireturn, 1) := by decide +kernel
theorem dX8_bits_0 : decode cX8_bits 0 = .ok (.iconst 0, 1) := by decide +kernel
theorem dX8_bits_1 : decode cX8_bits 1 = .ok (.istore_n 1, 1) := by decide +kernel
theorem dX8_bits_2 : decode cX8_bits 2 = .ok (.iload_n 0, 1) := by decide +kernel
theorem dX8_bits_3 : decode cX8_bits 3 = .ok (.istore_n 2, 1) := by decide +kernel
theorem dX8_bits_4 : decode cX8_bits 4 = .ok (.iload_n 2, 1) := by decide +kernel
theorem dX8_bits_5 : decode cX8_bits 5 = .ok (.ifCond .eq 15, 3) := by decide +kernel
theorem dX8_bits_8 : decode cX8_bits 8 = .ok (.iinc 1 1, 3) := by decide +kernel
theorem dX8_bits_11 : decode cX8_bits 11 = .ok (.iload_n 2, 1) := by decide +kernel
theorem dX8_bits_12 : decode cX8_bits 12 = .ok (.iload_n 2, 1) := by decide +kernel
theorem dX8_bits_13 : decode cX8_bits 13 = .ok (.iconst 1, 1) := by decide +kernel
theorem dX8_bits_14 : decode cX8_bits 14 = .ok (.isub, 1) := by decide +kernel
theorem dX8_bits_15 : decode cX8_bits 15 = .ok (.iand, 1) := by decide +kernel
theorem dX8_bits_16 : decode cX8_bits 16 = .ok (.istore_n 2, 1) := by decide +kernel
theorem dX8_bits_17 : decode cX8_bits 17 = .ok (.goto (-13), 3) := by decide +kernel
theorem dX8_bits_20 : decode cX8_bits 20 = .ok (.iload_n 1, 1) := by decide +kernel
theorem dX8_bits_21 : decode cX8_bits 21 = .ok (.ireturn, 1) := by decide +kernel
theorem dX8_isPond_0 : decode cX8_isPond 0 = .ok (.iload_n 0, 1) := by decide +kernel
theorem dX8_isPond_1 : decode cX8_isPond 1 = .ok (.iconst 0, 1) := by decide +kernel
theorem dX8_isPond_2 : decode cX8_isPond 2 = .ok (.bipush 15, 2) := by decide +kernel
theorem dX8_isPond_4 : decode cX8_isPond 4 = .ok (.invokestatic 58, 3) := by decide +kernel
theorem dX8_isPond_7 : decode cX8_isPond 7 = .ok (.ireturn, 1) := by decide +kernel
theorem dX8_isThing_0 : decode cX8_isThing 0 = .ok (.iload_n 1, 1) := by decide +kernel
theorem dX8_isThing_1 : decode cX8_isThing 1 = .ok (.iconst 0, 1) := by decide +kernel
theorem dX8_isThing_2 : decode cX8_isThing 2 = .ok (.aload_n 0, 1) := by decide +kernel
theorem dX8_isThing_3 : decode cX8_isThing 3 = .ok (.getfield 9, 3) := by decide +kernel
theorem dX8_isThing_6 : decode cX8_isThing 6 = .ok (.iconst 1, 1) := by decide +kernel
theorem dX8_isThing_7 : decode cX8_isThing 7 = .ok (.iaload, 1) := by decide +kernel
theorem dX8_isThing_8 : decode cX8_isThing 8 = .ok (.iconst 1, 1) := by decide +kernel
theorem dX8_isThing_9 : decode cX8_isThing 9 = .ok (.isub, 1) := by decide +kernel
theorem dX8_isThing_10 : decode cX8_isThing 10 = .ok (.invokestatic 58, 3) := by decide +kernel
theorem dX8_isThing_13 : decode cX8_isThing 13 = .ok (.ireturn, 1) := by decide +kernel
theorem dX8_of1_0 : decode cX8_of1 0 = .ok (.aload_n 0, 1) := by decide +kernel
theorem dX8_of1_1 : decode cX8_of1 1 = .ok (.getfield 9, 3) := by decide +kernel
theorem dX8_of1_4 : decode cX8_of1 4 = .ok (.iconst 4, 1) := by decide +kernel
theorem dX8_of1_5 : decode cX8_of1 5 = .ok (.bipush 6, 2) := by decide +kernel
theorem dX8_of1_7 : decode cX8_of1 7 = .ok (.iload_n 1, 1) := by decide +kernel
theorem dX8_of1_8 : decode cX8_of1 8 = .ok (.imul, 1) := by decide +kernel
theorem dX8_of1_9 : decode cX8_of1 9 = .ok (.iadd, 1) := by decide +kernel
theorem dX8_of1_10 : decode cX8_of1 10 = .ok (.iload_n 2, 1) := by decide +kernel
theorem dX8_of1_11 : decode cX8_of1 11 = .ok (.iadd, 1) := by decide +kernel
theorem dX8_of1_12 : decode cX8_of1 12 = .ok (.iaload, 1) := by decide +kernel
theorem dX8_of1_13 : decode cX8_of1 13 = .ok (.ireturn, 1) := by decide +kernel
theorem dX8_lays1_0 : decode cX8_lays1 0 = .ok (.aload_n 0, 1) := by decide +kernel
theorem dX8_lays1_1 : decode cX8_lays1 1 = .ok (.getfield 9, 3) := by decide +kernel
theorem dX8_lays1_4 : decode cX8_lays1 4 = .ok (.iconst 4, 1) := by decide +kernel
theorem dX8_lays1_5 : decode cX8_lays1 5 = .ok (.bipush 6, 2) := by decide +kernel
theorem dX8_lays1_7 : decode cX8_lays1 7 = .ok (.iload_n 1, 1) := by decide +kernel
theorem dX8_lays1_8 : decode cX8_lays1 8 = .ok (.imul, 1) := by decide +kernel
theorem dX8_lays1_9 : decode cX8_lays1 9 = .ok (.iadd, 1) := by decide +kernel
theorem dX8_lays1_10 : decode cX8_lays1 10 = .ok (.iload_n 2, 1) := by decide +kernel
theorem dX8_lays1_11 : decode cX8_lays1 11 = .ok (.iadd, 1) := by decide +kernel
theorem dX8_lays1_12 : decode cX8_lays1 12 = .ok (.iload_n 3, 1) := by decide +kernel
theorem dX8_lays1_13 : decode cX8_lays1 13 = .ok (.iastore, 1) := by decide +kernel
theorem dX8_lays1_14 : decode cX8_lays1 14 = .ok (.return_, 1) := by decide +kernel
theorem dX8_get_0 : decode cX8_get 0 = .ok (.aload_n 0, 1) := by decide +kernel
theorem dX8_get_1 : decode cX8_get 1 = .ok (.getfield 9, 3) := by decide +kernel
theorem dX8_get_4 : decode cX8_get 4 = .ok (.bipush 100, 2) := by decide +kernel
theorem dX8_get_6 : decode cX8_get 6 = .ok (.iconst 3, 1) := by decide +kernel
theorem dX8_get_7 : decode cX8_get 7 = .ok (.iload_n 1, 1) := by decide +kernel
theorem dX8_get_8 : decode cX8_get 8 = .ok (.imul, 1) := by decide +kernel
theorem dX8_get_9 : decode cX8_get 9 = .ok (.iadd, 1) := by decide +kernel
theorem dX8_get_10 : decode cX8_get 10 = .ok (.iload_n 2, 1) := by decide +kernel
theorem dX8_get_11 : decode cX8_get 11 = .ok (.iadd, 1) := by decide +kernel
theorem dX8_get_12 : decode cX8_get 12 = .ok (.iaload, 1) := by decide +kernel
theorem dX8_get_13 : decode cX8_get 13 = .ok (.ireturn, 1) := by decide +kernel
theorem dX8_puts_0 : decode cX8_puts 0 = .ok (.aload_n 0, 1) := by decide +kernel
theorem dX8_puts_1 : decode cX8_puts 1 = .ok (.getfield 9, 3) := by decide +kernel
theorem dX8_puts_4 : decode cX8_puts 4 = .ok (.bipush 100, 2) := by decide +kernel
theorem dX8_puts_6 : decode cX8_puts 6 = .ok (.iconst 3, 1) := by decide +kernel
theorem dX8_puts_7 : decode cX8_puts 7 = .ok (.iload_n 1, 1) := by decide +kernel
theorem dX8_puts_8 : decode cX8_puts 8 = .ok (.imul, 1) := by decide +kernel
theorem dX8_puts_9 : decode cX8_puts 9 = .ok (.iadd, 1) := by decide +kernel
theorem dX8_puts_10 : decode cX8_puts 10 = .ok (.iload_n 2, 1) := by decide +kernel
theorem dX8_puts_11 : decode cX8_puts 11 = .ok (.iadd, 1) := by decide +kernel
theorem dX8_puts_12 : decode cX8_puts 12 = .ok (.iload_n 3, 1) := by decide +kernel
theorem dX8_puts_13 : decode cX8_puts 13 = .ok (.iastore, 1) := by decide +kernel
theorem dX8_puts_14 : decode cX8_puts 14 = .ok (.return_, 1) := by decide +kernel
theorem dX8_setsAside_0 : decode cX8_setsAside 0 = .ok (.iconst 0, 1) := by decide +kernel
theorem dX8_setsAside_1 : decode cX8_setsAside 1 = .ok (.istore_n 1, 1) := by decide +kernel
theorem dX8_setsAside_2 : decode cX8_setsAside 2 = .ok (.iload_n 1, 1) := by decide +kernel
theorem dX8_setsAside_3 : decode cX8_setsAside 3 = .ok (.sipush 134, 3) := by decide +kernel
theorem dX8_setsAside_6 : decode cX8_setsAside 6 = .ok (.if_icmp .ge 21, 3) := by decide +kernel
theorem dX8_setsAside_9 : decode cX8_setsAside 9 = .ok (.aload_n 0, 1) := by decide +kernel
theorem dX8_setsAside_10 : decode cX8_setsAside 10 = .ok (.getfield 16, 3) := by decide +kernel
theorem dX8_setsAside_13 : decode cX8_setsAside 13 = .ok (.iload_n 1, 1) := by decide +kernel
theorem dX8_setsAside_14 : decode cX8_setsAside 14 = .ok (.aload_n 0, 1) := by decide +kernel
theorem dX8_setsAside_15 : decode cX8_setsAside 15 = .ok (.getfield 9, 3) := by decide +kernel
theorem dX8_setsAside_18 : decode cX8_setsAside 18 = .ok (.iload_n 1, 1) := by decide +kernel
theorem dX8_setsAside_19 : decode cX8_setsAside 19 = .ok (.iaload, 1) := by decide +kernel
theorem dX8_setsAside_20 : decode cX8_setsAside 20 = .ok (.iastore, 1) := by decide +kernel
theorem dX8_setsAside_21 : decode cX8_setsAside 21 = .ok (.iinc 1 1, 3) := by decide +kernel
theorem dX8_setsAside_24 : decode cX8_setsAside 24 = .ok (.goto (-22), 3) := by decide +kernel
theorem dX8_setsAside_27 : decode cX8_setsAside 27 = .ok (.return_, 1) := by decide +kernel
theorem dX8_laysBack_0 : decode cX8_laysBack 0 = .ok (.iconst 0, 1) := by decide +kernel
theorem dX8_laysBack_1 : decode cX8_laysBack 1 = .ok (.istore_n 1, 1) := by decide +kernel
theorem dX8_laysBack_2 : decode cX8_laysBack 2 = .ok (.iload_n 1, 1) := by decide +kernel
theorem dX8_laysBack_3 : decode cX8_laysBack 3 = .ok (.sipush 134, 3) := by decide +kernel
theorem dX8_laysBack_6 : decode cX8_laysBack 6 = .ok (.if_icmp .ge 21, 3) := by decide +kernel
theorem dX8_laysBack_9 : decode cX8_laysBack 9 = .ok (.aload_n 0, 1) := by decide +kernel
theorem dX8_laysBack_10 : decode cX8_laysBack 10 = .ok (.getfield 9, 3) := by decide +kernel
theorem dX8_laysBack_13 : decode cX8_laysBack 13 = .ok (.iload_n 1, 1) := by decide +kernel
theorem dX8_laysBack_14 : decode cX8_laysBack 14 = .ok (.aload_n 0, 1) := by decide +kernel
theorem dX8_laysBack_15 : decode cX8_laysBack 15 = .ok (.getfield 16, 3) := by decide +kernel
theorem dX8_laysBack_18 : decode cX8_laysBack 18 = .ok (.iload_n 1, 1) := by decide +kernel
theorem dX8_laysBack_19 : decode cX8_laysBack 19 = .ok (.iaload, 1) := by decide +kernel
theorem dX8_laysBack_20 : decode cX8_laysBack 20 = .ok (.iastore, 1) := by decide +kernel
theorem dX8_laysBack_21 : decode cX8_laysBack 21 = .ok (.iinc 1 1, 3) := by decide +kernel
theorem dX8_laysBack_24 : decode cX8_laysBack 24 = .ok (.goto (-22), 3) := by decide +kernel
theorem dX8_laysBack_27 : decode cX8_laysBack 27 = .ok (.return_, 1) := by decide +kernel
theorem dX8_inside_0 : decode cX8_inside 0 = .ok (.iconst 0, 1) := by decide +kernel
theorem dX8_inside_1 : decode cX8_inside 1 = .ok (.istore_n 2, 1) := by decide +kernel
theorem dX8_inside_2 : decode cX8_inside 2 = .ok (.iconst 0, 1) := by decide +kernel
theorem dX8_inside_3 : decode cX8_inside 3 = .ok (.istore_n 3, 1) := by decide +kernel
theorem dX8_inside_4 : decode cX8_inside 4 = .ok (.iload_n 3, 1) := by decide +kernel
theorem dX8_inside_5 : decode cX8_inside 5 = .ok (.aload_n 0, 1) := by decide +kernel
theorem dX8_inside_6 : decode cX8_inside 6 = .ok (.getfield 9, 3) := by decide +kernel
theorem dX8_inside_9 : decode cX8_inside 9 = .ok (.iconst 1, 1) := by decide +kernel
theorem dX8_inside_10 : decode cX8_inside 10 = .ok (.iaload, 1) := by decide +kernel
theorem dX8_inside_11 : decode cX8_inside 11 = .ok (.if_icmp .ge 29, 3) := by decide +kernel
theorem dX8_inside_14 : decode cX8_inside 14 = .ok (.iload_n 2, 1) := by decide +kernel
theorem dX8_inside_15 : decode cX8_inside 15 = .ok (.aload_n 0, 1) := by decide +kernel
theorem dX8_inside_16 : decode cX8_inside 16 = .ok (.iload_n 3, 1) := by decide +kernel
theorem dX8_inside_17 : decode cX8_inside 17 = .ok (.iconst 1, 1) := by decide +kernel
theorem dX8_inside_18 : decode cX8_inside 18 = .ok (.invokevirtual 62, 3) := by decide +kernel
theorem dX8_inside_21 : decode cX8_inside 21 = .ok (.iload_n 1, 1) := by decide +kernel
theorem dX8_inside_22 : decode cX8_inside 22 = .ok (.if_icmp .ne 9, 3) := by decide +kernel
theorem dX8_inside_25 : decode cX8_inside 25 = .ok (.iconst 1, 1) := by decide +kernel
theorem dX8_inside_26 : decode cX8_inside 26 = .ok (.iload_n 3, 1) := by decide +kernel
theorem dX8_inside_27 : decode cX8_inside 27 = .ok (.ishl, 1) := by decide +kernel
theorem dX8_inside_28 : decode cX8_inside 28 = .ok (.goto 4, 3) := by decide +kernel
theorem dX8_inside_31 : decode cX8_inside 31 = .ok (.iconst 0, 1) := by decide +kernel
theorem dX8_inside_32 : decode cX8_inside 32 = .ok (.ior, 1) := by decide +kernel
theorem dX8_inside_33 : decode cX8_inside 33 = .ok (.istore_n 2, 1) := by decide +kernel
theorem dX8_inside_34 : decode cX8_inside 34 = .ok (.iinc 3 1, 3) := by decide +kernel
theorem dX8_inside_37 : decode cX8_inside 37 = .ok (.goto (-33), 3) := by decide +kernel
theorem dX8_inside_40 : decode cX8_inside 40 = .ok (.iload_n 2, 1) := by decide +kernel
theorem dX8_inside_41 : decode cX8_inside 41 = .ok (.ireturn, 1) := by decide +kernel
theorem dX8_seenIn_0 : decode cX8_seenIn 0 = .ok (.aload_n 0, 1) := by decide +kernel
theorem dX8_seenIn_1 : decode cX8_seenIn 1 = .ok (.aload_n 0, 1) := by decide +kernel
theorem dX8_seenIn_2 : decode cX8_seenIn 2 = .ok (.iload_n 1, 1) := by decide +kernel
theorem dX8_seenIn_3 : decode cX8_seenIn 3 = .ok (.iconst 0, 1) := by decide +kernel
theorem dX8_seenIn_4 : decode cX8_seenIn 4 = .ok (.invokevirtual 66, 3) := by decide +kernel
theorem dX8_seenIn_7 : decode cX8_seenIn 7 = .ok (.invokevirtual 69, 3) := by decide +kernel
theorem dX8_seenIn_10 : decode cX8_seenIn 10 = .ok (.ireturn, 1) := by decide +kernel
theorem dX8_pondsWith_0 : decode cX8_pondsWith 0 = .ok (.iconst 0, 1) := by decide +kernel
theorem dX8_pondsWith_1 : decode cX8_pondsWith 1 = .ok (.istore_n 2, 1) := by decide +kernel
theorem dX8_pondsWith_2 : decode cX8_pondsWith 2 = .ok (.iconst 0, 1) := by decide +kernel
theorem dX8_pondsWith_3 : decode cX8_pondsWith 3 = .ok (.istore_n 3, 1) := by decide +kernel
theorem dX8_pondsWith_4 : decode cX8_pondsWith 4 = .ok (.iload_n 3, 1) := by decide +kernel
theorem dX8_pondsWith_5 : decode cX8_pondsWith 5 = .ok (.bipush 16, 2) := by decide +kernel
theorem dX8_pondsWith_7 : decode cX8_pondsWith 7 = .ok (.if_icmp .ge 39, 3) := by decide +kernel
theorem dX8_pondsWith_10 : decode cX8_pondsWith 10 = .ok (.iload_n 2, 1) := by decide +kernel
theorem dX8_pondsWith_11 : decode cX8_pondsWith 11 = .ok (.iload_n 1, 1) := by decide +kernel
theorem dX8_pondsWith_12 : decode cX8_pondsWith 12 = .ok (.ifCond .eq 11, 3) := by decide +kernel
theorem dX8_pondsWith_15 : decode cX8_pondsWith 15 = .ok (.aload_n 0, 1) := by decide +kernel
theorem dX8_pondsWith_16 : decode cX8_pondsWith 16 = .ok (.iload_n 3, 1) := by decide +kernel
theorem dX8_pondsWith_17 : decode cX8_pondsWith 17 = .ok (.invokevirtual 73, 3) := by decide +kernel
theorem dX8_pondsWith_20 : decode cX8_pondsWith 20 = .ok (.goto 8, 3) := by decide +kernel
theorem dX8_pondsWith_23 : decode cX8_pondsWith 23 = .ok (.aload_n 0, 1) := by decide +kernel
theorem dX8_pondsWith_24 : decode cX8_pondsWith 24 = .ok (.iload_n 3, 1) := by decide +kernel
theorem dX8_pondsWith_25 : decode cX8_pondsWith 25 = .ok (.invokevirtual 69, 3) := by decide +kernel
theorem dX8_pondsWith_28 : decode cX8_pondsWith 28 = .ok (.ifCond .eq 9, 3) := by decide +kernel
theorem dX8_pondsWith_31 : decode cX8_pondsWith 31 = .ok (.iconst 1, 1) := by decide +kernel
theorem dX8_pondsWith_32 : decode cX8_pondsWith 32 = .ok (.iload_n 3, 1) := by decide +kernel
theorem dX8_pondsWith_33 : decode cX8_pondsWith 33 = .ok (.ishl, 1) := by decide +kernel
theorem dX8_pondsWith_34 : decode cX8_pondsWith 34 = .ok (.goto 4, 3) := by decide +kernel
theorem dX8_pondsWith_37 : decode cX8_pondsWith 37 = .ok (.iconst 0, 1) := by decide +kernel
theorem dX8_pondsWith_38 : decode cX8_pondsWith 38 = .ok (.ior, 1) := by decide +kernel
theorem dX8_pondsWith_39 : decode cX8_pondsWith 39 = .ok (.istore_n 2, 1) := by decide +kernel
theorem dX8_pondsWith_40 : decode cX8_pondsWith 40 = .ok (.iinc 3 1, 3) := by decide +kernel
theorem dX8_pondsWith_43 : decode cX8_pondsWith 43 = .ok (.goto (-39), 3) := by decide +kernel
theorem dX8_pondsWith_46 : decode cX8_pondsWith 46 = .ok (.iload_n 2, 1) := by decide +kernel
theorem dX8_pondsWith_47 : decode cX8_pondsWith 47 = .ok (.ireturn, 1) := by decide +kernel
theorem dX8_showing_0 : decode cX8_showing 0 = .ok (.iconst 0, 1) := by decide +kernel
theorem dX8_showing_1 : decode cX8_showing 1 = .ok (.istore_n 2, 1) := by decide +kernel
theorem dX8_showing_2 : decode cX8_showing 2 = .ok (.iconst 0, 1) := by decide +kernel
theorem dX8_showing_3 : decode cX8_showing 3 = .ok (.istore_n 3, 1) := by decide +kernel
theorem dX8_showing_4 : decode cX8_showing 4 = .ok (.iload_n 3, 1) := by decide +kernel
theorem dX8_showing_5 : decode cX8_showing 5 = .ok (.bipush 16, 2) := by decide +kernel
theorem dX8_showing_7 : decode cX8_showing 7 = .ok (.if_icmp .ge 29, 3) := by decide +kernel
theorem dX8_showing_10 : decode cX8_showing 10 = .ok (.iload_n 2, 1) := by decide +kernel
theorem dX8_showing_11 : decode cX8_showing 11 = .ok (.aload_n 0, 1) := by decide +kernel
theorem dX8_showing_12 : decode cX8_showing 12 = .ok (.iload_n 3, 1) := by decide +kernel
theorem dX8_showing_13 : decode cX8_showing 13 = .ok (.iconst 0, 1) := by decide +kernel
theorem dX8_showing_14 : decode cX8_showing 14 = .ok (.invokevirtual 66, 3) := by decide +kernel
theorem dX8_showing_17 : decode cX8_showing 17 = .ok (.iload_n 1, 1) := by decide +kernel
theorem dX8_showing_18 : decode cX8_showing 18 = .ok (.if_icmp .ne 9, 3) := by decide +kernel
theorem dX8_showing_21 : decode cX8_showing 21 = .ok (.iconst 1, 1) := by decide +kernel
theorem dX8_showing_22 : decode cX8_showing 22 = .ok (.iload_n 3, 1) := by decide +kernel
theorem dX8_showing_23 : decode cX8_showing 23 = .ok (.ishl, 1) := by decide +kernel
theorem dX8_showing_24 : decode cX8_showing 24 = .ok (.goto 4, 3) := by decide +kernel
theorem dX8_showing_27 : decode cX8_showing 27 = .ok (.iconst 0, 1) := by decide +kernel
theorem dX8_showing_28 : decode cX8_showing 28 = .ok (.ior, 1) := by decide +kernel
theorem dX8_showing_29 : decode cX8_showing 29 = .ok (.istore_n 2, 1) := by decide +kernel
theorem dX8_showing_30 : decode cX8_showing 30 = .ok (.iinc 3 1, 3) := by decide +kernel
theorem dX8_showing_33 : decode cX8_showing 33 = .ok (.goto (-29), 3) := by decide +kernel
theorem dX8_showing_36 : decode cX8_showing 36 = .ok (.iload_n 2, 1) := by decide +kernel
theorem dX8_showing_37 : decode cX8_showing 37 = .ok (.ireturn, 1) := by decide +kernel
theorem dX8_lengths_0 : decode cX8_lengths 0 = .ok (.iconst 0, 1) := by decide +kernel
theorem dX8_lengths_1 : decode cX8_lengths 1 = .ok (.istore_n 1, 1) := by decide +kernel
theorem dX8_lengths_2 : decode cX8_lengths 2 = .ok (.iconst 0, 1) := by decide +kernel
theorem dX8_lengths_3 : decode cX8_lengths 3 = .ok (.istore_n 2, 1) := by decide +kernel
theorem dX8_lengths_4 : decode cX8_lengths 4 = .ok (.iload_n 2, 1) := by decide +kernel
theorem dX8_lengths_5 : decode cX8_lengths 5 = .ok (.aload_n 0, 1) := by decide +kernel
theorem dX8_lengths_6 : decode cX8_lengths 6 = .ok (.getfield 9, 3) := by decide +kernel
theorem dX8_lengths_9 : decode cX8_lengths 9 = .ok (.iconst 1, 1) := by decide +kernel
theorem dX8_lengths_10 : decode cX8_lengths 10 = .ok (.iaload, 1) := by decide +kernel
theorem dX8_lengths_11 : decode cX8_lengths 11 = .ok (.if_icmp .ge 18, 3) := by decide +kernel
theorem dX8_lengths_14 : decode cX8_lengths 14 = .ok (.iload_n 1, 1) := by decide +kernel
theorem dX8_lengths_15 : decode cX8_lengths 15 = .ok (.aload_n 0, 1) := by decide +kernel
theorem dX8_lengths_16 : decode cX8_lengths 16 = .ok (.iload_n 2, 1) := by decide +kernel
theorem dX8_lengths_17 : decode cX8_lengths 17 = .ok (.iconst 2, 1) := by decide +kernel
theorem dX8_lengths_18 : decode cX8_lengths 18 = .ok (.invokevirtual 62, 3) := by decide +kernel
theorem dX8_lengths_21 : decode cX8_lengths 21 = .ok (.iadd, 1) := by decide +kernel
theorem dX8_lengths_22 : decode cX8_lengths 22 = .ok (.istore_n 1, 1) := by decide +kernel
theorem dX8_lengths_23 : decode cX8_lengths 23 = .ok (.iinc 2 1, 3) := by decide +kernel
theorem dX8_lengths_26 : decode cX8_lengths 26 = .ok (.goto (-22), 3) := by decide +kernel
theorem dX8_lengths_29 : decode cX8_lengths 29 = .ok (.iload_n 1, 1) := by decide +kernel
theorem dX8_lengths_30 : decode cX8_lengths 30 = .ok (.ireturn, 1) := by decide +kernel
theorem dX8_hasFish_0 : decode cX8_hasFish 0 = .ok (.iconst 0, 1) := by decide +kernel
theorem dX8_hasFish_1 : decode cX8_hasFish 1 = .ok (.istore_n 3, 1) := by decide +kernel
theorem dX8_hasFish_2 : decode cX8_hasFish 2 = .ok (.iconst 0, 1) := by decide +kernel
theorem dX8_hasFish_3 : decode cX8_hasFish 3 = .ok (.istore 4, 2) := by decide +kernel
theorem dX8_hasFish_5 : decode cX8_hasFish 5 = .ok (.iload 4, 2) := by decide +kernel
theorem dX8_hasFish_7 : decode cX8_hasFish 7 = .ok (.aload_n 0, 1) := by decide +kernel
theorem dX8_hasFish_8 : decode cX8_hasFish 8 = .ok (.getfield 9, 3) := by decide +kernel
theorem dX8_hasFish_11 : decode cX8_hasFish 11 = .ok (.iconst 1, 1) := by decide +kernel
theorem dX8_hasFish_12 : decode cX8_hasFish 12 = .ok (.iaload, 1) := by decide +kernel
theorem dX8_hasFish_13 : decode cX8_hasFish 13 = .ok (.if_icmp .ge 71, 3) := by decide +kernel
theorem dX8_hasFish_16 : decode cX8_hasFish 16 = .ok (.aload_n 0, 1) := by decide +kernel
theorem dX8_hasFish_17 : decode cX8_hasFish 17 = .ok (.iload 4, 2) := by decide +kernel
theorem dX8_hasFish_19 : decode cX8_hasFish 19 = .ok (.iconst 0, 1) := by decide +kernel
theorem dX8_hasFish_20 : decode cX8_hasFish 20 = .ok (.invokevirtual 62, 3) := by decide +kernel
theorem dX8_hasFish_23 : decode cX8_hasFish 23 = .ok (.iconst 1, 1) := by decide +kernel
theorem dX8_hasFish_24 : decode cX8_hasFish 24 = .ok (.if_icmp .eq 15, 3) := by decide +kernel
theorem dX8_hasFish_27 : decode cX8_hasFish 27 = .ok (.aload_n 0, 1) := by decide +kernel
theorem dX8_hasFish_28 : decode cX8_hasFish 28 = .ok (.iload 4, 2) := by decide +kernel
theorem dX8_hasFish_30 : decode cX8_hasFish 30 = .ok (.iconst 0, 1) := by decide +kernel
theorem dX8_hasFish_31 : decode cX8_hasFish 31 = .ok (.invokevirtual 62, 3) := by decide +kernel
theorem dX8_hasFish_34 : decode cX8_hasFish 34 = .ok (.bipush 6, 2) := by decide +kernel
theorem dX8_hasFish_36 : decode cX8_hasFish 36 = .ok (.if_icmp .ne 7, 3) := by decide +kernel
theorem dX8_hasFish_39 : decode cX8_hasFish 39 = .ok (.iconst 1, 1) := by decide +kernel
theorem dX8_hasFish_40 : decode cX8_hasFish 40 = .ok (.goto 4, 3) := by decide +kernel
theorem dX8_hasFish_43 : decode cX8_hasFish 43 = .ok (.iconst 0, 1) := by decide +kernel
theorem dX8_hasFish_44 : decode cX8_hasFish 44 = .ok (.istore 5, 2) := by decide +kernel
theorem dX8_hasFish_46 : decode cX8_hasFish 46 = .ok (.iload_n 3, 1) := by decide +kernel
theorem dX8_hasFish_47 : decode cX8_hasFish 47 = .ok (.ifCond .ne 25, 3) := by decide +kernel
theorem dX8_hasFish_50 : decode cX8_hasFish 50 = .ok (.iload 5, 2) := by decide +kernel
theorem dX8_hasFish_52 : decode cX8_hasFish 52 = .ok (.ifCond .eq 24, 3) := by decide +kernel
theorem dX8_hasFish_55 : decode cX8_hasFish 55 = .ok (.iload 4, 2) := by decide +kernel
theorem dX8_hasFish_57 : decode cX8_hasFish 57 = .ok (.iload_n 2, 1) := by decide +kernel
theorem dX8_hasFish_58 : decode cX8_hasFish 58 = .ok (.if_icmp .eq 18, 3) := by decide +kernel
theorem dX8_hasFish_61 : decode cX8_hasFish 61 = .ok (.aload_n 0, 1) := by decide +kernel
theorem dX8_hasFish_62 : decode cX8_hasFish 62 = .ok (.iload 4, 2) := by decide +kernel
theorem dX8_hasFish_64 : decode cX8_hasFish 64 = .ok (.iconst 1, 1) := by decide +kernel
theorem dX8_hasFish_65 : decode cX8_hasFish 65 = .ok (.invokevirtual 62, 3) := by decide +kernel
theorem dX8_hasFish_68 : decode cX8_hasFish 68 = .ok (.iload_n 1, 1) := by decide +kernel
theorem dX8_hasFish_69 : decode cX8_hasFish 69 = .ok (.if_icmp .ne 7, 3) := by decide +kernel
theorem dX8_hasFish_72 : decode cX8_hasFish 72 = .ok (.iconst 1, 1) := by decide +kernel
theorem dX8_hasFish_73 : decode cX8_hasFish 73 = .ok (.goto 4, 3) := by decide +kernel
theorem dX8_hasFish_76 : decode cX8_hasFish 76 = .ok (.iconst 0, 1) := by decide +kernel
theorem dX8_hasFish_77 : decode cX8_hasFish 77 = .ok (.istore_n 3, 1) := by decide +kernel
theorem dX8_hasFish_78 : decode cX8_hasFish 78 = .ok (.iinc 4 1, 3) := by decide +kernel
theorem dX8_hasFish_81 : decode cX8_hasFish 81 = .ok (.goto (-76), 3) := by decide +kernel
theorem dX8_hasFish_84 : decode cX8_hasFish 84 = .ok (.iload_n 3, 1) := by decide +kernel
theorem dX8_hasFish_85 : decode cX8_hasFish 85 = .ok (.ireturn, 1) := by decide +kernel
theorem dX8_asFrog_0 : decode cX8_asFrog 0 = .ok (.aload_n 0, 1) := by decide +kernel
theorem dX8_asFrog_1 : decode cX8_asFrog 1 = .ok (.getfield 9, 3) := by decide +kernel
theorem dX8_asFrog_4 : decode cX8_asFrog 4 = .ok (.iconst 0, 1) := by decide +kernel
theorem dX8_asFrog_5 : decode cX8_asFrog 5 = .ok (.iaload, 1) := by decide +kernel
theorem dX8_asFrog_6 : decode cX8_asFrog 6 = .ok (.iconst 2, 1) := by decide +kernel
theorem dX8_asFrog_7 : decode cX8_asFrog 7 = .ok (.irem, 1) := by decide +kernel
theorem dX8_asFrog_8 : decode cX8_asFrog 8 = .ok (.ifCond .ne 12, 3) := by decide +kernel
theorem dX8_asFrog_11 : decode cX8_asFrog 11 = .ok (.aload_n 0, 1) := by decide +kernel
theorem dX8_asFrog_12 : decode cX8_asFrog 12 = .ok (.iload_n 1, 1) := by decide +kernel
theorem dX8_asFrog_13 : decode cX8_asFrog 13 = .ok (.iconst 0, 1) := by decide +kernel
theorem dX8_asFrog_14 : decode cX8_asFrog 14 = .ok (.invokevirtual 66, 3) := by decide +kernel
theorem dX8_asFrog_17 : decode cX8_asFrog 17 = .ok (.goto 4, 3) := by decide +kernel
theorem dX8_asFrog_20 : decode cX8_asFrog 20 = .ok (.iload_n 1, 1) := by decide +kernel
theorem dX8_asFrog_21 : decode cX8_asFrog 21 = .ok (.ireturn, 1) := by decide +kernel
theorem dX8_asHeron_0 : decode cX8_asHeron 0 = .ok (.aload_n 0, 1) := by decide +kernel
theorem dX8_asHeron_1 : decode cX8_asHeron 1 = .ok (.iload_n 1, 1) := by decide +kernel
theorem dX8_asHeron_2 : decode cX8_asHeron 2 = .ok (.invokevirtual 76, 3) := by decide +kernel
theorem dX8_asHeron_5 : decode cX8_asHeron 5 = .ok (.istore_n 2, 1) := by decide +kernel
theorem dX8_asHeron_6 : decode cX8_asHeron 6 = .ok (.iconst 0, 1) := by decide +kernel
theorem dX8_asHeron_7 : decode cX8_asHeron 7 = .ok (.istore_n 3, 1) := by decide +kernel
theorem dX8_asHeron_8 : decode cX8_asHeron 8 = .ok (.iload_n 2, 1) := by decide +kernel
theorem dX8_asHeron_9 : decode cX8_asHeron 9 = .ok (.ifCond .eq 17, 3) := by decide +kernel
theorem dX8_asHeron_12 : decode cX8_asHeron 12 = .ok (.iload_n 2, 1) := by decide +kernel
theorem dX8_asHeron_13 : decode cX8_asHeron 13 = .ok (.iload_n 3, 1) := by decide +kernel
theorem dX8_asHeron_14 : decode cX8_asHeron 14 = .ok (.ishr, 1) := by decide +kernel
theorem dX8_asHeron_15 : decode cX8_asHeron 15 = .ok (.iconst 1, 1) := by decide +kernel
theorem dX8_asHeron_16 : decode cX8_asHeron 16 = .ok (.iand, 1) := by decide +kernel
theorem dX8_asHeron_17 : decode cX8_asHeron 17 = .ok (.ifCond .ne 9, 3) := by decide +kernel
theorem dX8_asHeron_20 : decode cX8_asHeron 20 = .ok (.iinc 3 1, 3) := by decide +kernel
theorem dX8_asHeron_23 : decode cX8_asHeron 23 = .ok (.goto (-15), 3) := by decide +kernel
theorem dX8_asHeron_26 : decode cX8_asHeron 26 = .ok (.iload_n 2, 1) := by decide +kernel
theorem dX8_asHeron_27 : decode cX8_asHeron 27 = .ok (.ifCond .eq 16, 3) := by decide +kernel
theorem dX8_asHeron_30 : decode cX8_asHeron 30 = .ok (.aload_n 0, 1) := by decide +kernel
theorem dX8_asHeron_31 : decode cX8_asHeron 31 = .ok (.iload_n 3, 1) := by decide +kernel
theorem dX8_asHeron_32 : decode cX8_asHeron 32 = .ok (.iconst (-1), 1) := by decide +kernel
theorem dX8_asHeron_33 : decode cX8_asHeron 33 = .ok (.invokevirtual 79, 3) := by decide +kernel
theorem dX8_asHeron_36 : decode cX8_asHeron 36 = .ok (.ifCond .eq 7, 3) := by decide +kernel
theorem dX8_asHeron_39 : decode cX8_asHeron 39 = .ok (.iload_n 3, 1) := by decide +kernel
theorem dX8_asHeron_40 : decode cX8_asHeron 40 = .ok (.goto 8, 3) := by decide +kernel
theorem dX8_asHeron_43 : decode cX8_asHeron 43 = .ok (.aload_n 0, 1) := by decide +kernel
theorem dX8_asHeron_44 : decode cX8_asHeron 44 = .ok (.iload_n 1, 1) := by decide +kernel
theorem dX8_asHeron_45 : decode cX8_asHeron 45 = .ok (.invokevirtual 83, 3) := by decide +kernel
theorem dX8_asHeron_48 : decode cX8_asHeron 48 = .ok (.ireturn, 1) := by decide +kernel
theorem dX8_dryNext_0 : decode cX8_dryNext 0 = .ok (.aload_n 0, 1) := by decide +kernel
theorem dX8_dryNext_1 : decode cX8_dryNext 1 = .ok (.iload_n 1, 1) := by decide +kernel
theorem dX8_dryNext_2 : decode cX8_dryNext 2 = .ok (.iconst 1, 1) := by decide +kernel
theorem dX8_dryNext_3 : decode cX8_dryNext 3 = .ok (.invokevirtual 62, 3) := by decide +kernel
theorem dX8_dryNext_6 : decode cX8_dryNext 6 = .ok (.istore_n 2, 1) := by decide +kernel
theorem dX8_dryNext_7 : decode cX8_dryNext 7 = .ok (.aload_n 0, 1) := by decide +kernel
theorem dX8_dryNext_8 : decode cX8_dryNext 8 = .ok (.iload_n 2, 1) := by decide +kernel
theorem dX8_dryNext_9 : decode cX8_dryNext 9 = .ok (.iconst 0, 1) := by decide +kernel
theorem dX8_dryNext_10 : decode cX8_dryNext 10 = .ok (.invokevirtual 66, 3) := by decide +kernel
theorem dX8_dryNext_13 : decode cX8_dryNext 13 = .ok (.istore_n 3, 1) := by decide +kernel
theorem dX8_dryNext_14 : decode cX8_dryNext 14 = .ok (.aload_n 0, 1) := by decide +kernel
theorem dX8_dryNext_15 : decode cX8_dryNext 15 = .ok (.iload_n 2, 1) := by decide +kernel
theorem dX8_dryNext_16 : decode cX8_dryNext 16 = .ok (.iconst 4, 1) := by decide +kernel
theorem dX8_dryNext_17 : decode cX8_dryNext 17 = .ok (.invokevirtual 66, 3) := by decide +kernel
theorem dX8_dryNext_20 : decode cX8_dryNext 20 = .ok (.istore 4, 2) := by decide +kernel
theorem dX8_dryNext_22 : decode cX8_dryNext 22 = .ok (.aload_n 0, 1) := by decide +kernel
theorem dX8_dryNext_23 : decode cX8_dryNext 23 = .ok (.iload_n 1, 1) := by decide +kernel
theorem dX8_dryNext_24 : decode cX8_dryNext 24 = .ok (.iconst 0, 1) := by decide +kernel
theorem dX8_dryNext_25 : decode cX8_dryNext 25 = .ok (.invokevirtual 62, 3) := by decide +kernel
theorem dX8_dryNext_28 : decode cX8_dryNext 28 = .ok (.tableswitch 95 1 6 #[40, 43, 45, 51, 57, 79], 40) := by decide +kernel
theorem dX8_dryNext_68 : decode cX8_dryNext 68 = .ok (.iload 4, 2) := by decide +kernel
theorem dX8_dryNext_70 : decode cX8_dryNext 70 = .ok (.ireturn, 1) := by decide +kernel
theorem dX8_dryNext_71 : decode cX8_dryNext 71 = .ok (.iload_n 3, 1) := by decide +kernel
theorem dX8_dryNext_72 : decode cX8_dryNext 72 = .ok (.ireturn, 1) := by decide +kernel
theorem dX8_dryNext_73 : decode cX8_dryNext 73 = .ok (.aload_n 0, 1) := by decide +kernel
theorem dX8_dryNext_74 : decode cX8_dryNext 74 = .ok (.iload_n 2, 1) := by decide +kernel
theorem dX8_dryNext_75 : decode cX8_dryNext 75 = .ok (.invokevirtual 83, 3) := by decide +kernel
theorem dX8_dryNext_78 : decode cX8_dryNext 78 = .ok (.ireturn, 1) := by decide +kernel
theorem dX8_dryNext_79 : decode cX8_dryNext 79 = .ok (.aload_n 0, 1) := by decide +kernel
theorem dX8_dryNext_80 : decode cX8_dryNext 80 = .ok (.iload_n 2, 1) := by decide +kernel
theorem dX8_dryNext_81 : decode cX8_dryNext 81 = .ok (.invokevirtual 86, 3) := by decide +kernel
theorem dX8_dryNext_84 : decode cX8_dryNext 84 = .ok (.ireturn, 1) := by decide +kernel
theorem dX8_dryNext_85 : decode cX8_dryNext 85 = .ok (.aload_n 0, 1) := by decide +kernel
theorem dX8_dryNext_86 : decode cX8_dryNext 86 = .ok (.iload_n 2, 1) := by decide +kernel
theorem dX8_dryNext_87 : decode cX8_dryNext 87 = .ok (.iconst 5, 1) := by decide +kernel
theorem dX8_dryNext_88 : decode cX8_dryNext 88 = .ok (.invokevirtual 66, 3) := by decide +kernel
theorem dX8_dryNext_91 : decode cX8_dryNext 91 = .ok (.aload_n 0, 1) := by decide +kernel
theorem dX8_dryNext_92 : decode cX8_dryNext 92 = .ok (.iload_n 1, 1) := by decide +kernel
theorem dX8_dryNext_93 : decode cX8_dryNext 93 = .ok (.iconst 2, 1) := by decide +kernel
theorem dX8_dryNext_94 : decode cX8_dryNext 94 = .ok (.invokevirtual 62, 3) := by decide +kernel
theorem dX8_dryNext_97 : decode cX8_dryNext 97 = .ok (.if_icmp .ge 8, 3) := by decide +kernel
theorem dX8_dryNext_100 : decode cX8_dryNext 100 = .ok (.iload 4, 2) := by decide +kernel
theorem dX8_dryNext_102 : decode cX8_dryNext 102 = .ok (.goto 4, 3) := by decide +kernel
theorem dX8_dryNext_105 : decode cX8_dryNext 105 = .ok (.iload_n 2, 1) := by decide +kernel
theorem dX8_dryNext_106 : decode cX8_dryNext 106 = .ok (.ireturn, 1) := by decide +kernel
theorem dX8_dryNext_107 : decode cX8_dryNext 107 = .ok (.aload_n 0, 1) := by decide +kernel
theorem dX8_dryNext_108 : decode cX8_dryNext 108 = .ok (.iload_n 3, 1) := by decide +kernel
theorem dX8_dryNext_109 : decode cX8_dryNext 109 = .ok (.iload_n 1, 1) := by decide +kernel
theorem dX8_dryNext_110 : decode cX8_dryNext 110 = .ok (.invokevirtual 79, 3) := by decide +kernel
theorem dX8_dryNext_113 : decode cX8_dryNext 113 = .ok (.ifCond .eq 7, 3) := by decide +kernel
theorem dX8_dryNext_116 : decode cX8_dryNext 116 = .ok (.iload_n 3, 1) := by decide +kernel
theorem dX8_dryNext_117 : decode cX8_dryNext 117 = .ok (.goto 5, 3) := by decide +kernel
theorem dX8_dryNext_120 : decode cX8_dryNext 120 = .ok (.iload 4, 2) := by decide +kernel
theorem dX8_dryNext_122 : decode cX8_dryNext 122 = .ok (.ireturn, 1) := by decide +kernel
theorem dX8_dryNext_123 : decode cX8_dryNext 123 = .ok (.iload_n 2, 1) := by decide +kernel
theorem dX8_dryNext_124 : decode cX8_dryNext 124 = .ok (.ireturn, 1) := by decide +kernel
theorem dX8_nextOf_0 : decode cX8_nextOf 0 = .ok (.aload_n 0, 1) := by decide +kernel
theorem dX8_nextOf_1 : decode cX8_nextOf 1 = .ok (.iload_n 1, 1) := by decide +kernel
theorem dX8_nextOf_2 : decode cX8_nextOf 2 = .ok (.invokevirtual 89, 3) := by decide +kernel
theorem dX8_nextOf_5 : decode cX8_nextOf 5 = .ok (.aload_n 0, 1) := by decide +kernel
theorem dX8_nextOf_6 : decode cX8_nextOf 6 = .ok (.getfield 9, 3) := by decide +kernel
theorem dX8_nextOf_9 : decode cX8_nextOf 9 = .ok (.iconst 3, 1) := by decide +kernel
theorem dX8_nextOf_10 : decode cX8_nextOf 10 = .ok (.iaload, 1) := by decide +kernel
theorem dX8_nextOf_11 : decode cX8_nextOf 11 = .ok (.iadd, 1) := by decide +kernel
theorem dX8_nextOf_12 : decode cX8_nextOf 12 = .ok (.bipush 16, 2) := by decide +kernel
theorem dX8_nextOf_14 : decode cX8_nextOf 14 = .ok (.irem, 1) := by decide +kernel
theorem dX8_nextOf_15 : decode cX8_nextOf 15 = .ok (.ireturn, 1) := by decide +kernel
theorem dX8_minute_0 : decode cX8_minute 0 = .ok (.iconst 0, 1) := by decide +kernel
theorem dX8_minute_1 : decode cX8_minute 1 = .ok (.istore_n 1, 1) := by decide +kernel
theorem dX8_minute_2 : decode cX8_minute 2 = .ok (.iload_n 1, 1) := by decide +kernel
theorem dX8_minute_3 : decode cX8_minute 3 = .ok (.aload_n 0, 1) := by decide +kernel
theorem dX8_minute_4 : decode cX8_minute 4 = .ok (.getfield 9, 3) := by decide +kernel
theorem dX8_minute_7 : decode cX8_minute 7 = .ok (.iconst 1, 1) := by decide +kernel
theorem dX8_minute_8 : decode cX8_minute 8 = .ok (.iaload, 1) := by decide +kernel
theorem dX8_minute_9 : decode cX8_minute 9 = .ok (.if_icmp .ge 20, 3) := by decide +kernel
theorem dX8_minute_12 : decode cX8_minute 12 = .ok (.aload_n 0, 1) := by decide +kernel
theorem dX8_minute_13 : decode cX8_minute 13 = .ok (.iload_n 1, 1) := by decide +kernel
theorem dX8_minute_14 : decode cX8_minute 14 = .ok (.iconst 1, 1) := by decide +kernel
theorem dX8_minute_15 : decode cX8_minute 15 = .ok (.aload_n 0, 1) := by decide +kernel
theorem dX8_minute_16 : decode cX8_minute 16 = .ok (.iload_n 1, 1) := by decide +kernel
theorem dX8_minute_17 : decode cX8_minute 17 = .ok (.invokevirtual 92, 3) := by decide +kernel
theorem dX8_minute_20 : decode cX8_minute 20 = .ok (.invokevirtual 95, 3) := by decide +kernel
theorem dX8_minute_23 : decode cX8_minute 23 = .ok (.iinc 1 1, 3) := by decide +kernel
theorem dX8_minute_26 : decode cX8_minute 26 = .ok (.goto (-24), 3) := by decide +kernel
theorem dX8_minute_29 : decode cX8_minute 29 = .ok (.aload_n 0, 1) := by decide +kernel
theorem dX8_minute_30 : decode cX8_minute 30 = .ok (.getfield 9, 3) := by decide +kernel
theorem dX8_minute_33 : decode cX8_minute 33 = .ok (.iconst 0, 1) := by decide +kernel
theorem dX8_minute_34 : decode cX8_minute 34 = .ok (.ldc 98, 2) := by decide +kernel
theorem dX8_minute_36 : decode cX8_minute 36 = .ok (.aload_n 0, 1) := by decide +kernel
theorem dX8_minute_37 : decode cX8_minute 37 = .ok (.getfield 9, 3) := by decide +kernel
theorem dX8_minute_40 : decode cX8_minute 40 = .ok (.iconst 0, 1) := by decide +kernel
theorem dX8_minute_41 : decode cX8_minute 41 = .ok (.iaload, 1) := by decide +kernel
theorem dX8_minute_42 : decode cX8_minute 42 = .ok (.iconst 1, 1) := by decide +kernel
theorem dX8_minute_43 : decode cX8_minute 43 = .ok (.iadd, 1) := by decide +kernel
theorem dX8_minute_44 : decode cX8_minute 44 = .ok (.invokestatic 99, 3) := by decide +kernel
theorem dX8_minute_47 : decode cX8_minute 47 = .ok (.iastore, 1) := by decide +kernel
theorem dX8_minute_48 : decode cX8_minute 48 = .ok (.return_, 1) := by decide +kernel
theorem dX8_pond_0 : decode cX8_pond 0 = .ok (.iload_n 1, 1) := by decide +kernel
theorem dX8_pond_1 : decode cX8_pond 1 = .ok (.invokestatic 102, 3) := by decide +kernel
theorem dX8_pond_4 : decode cX8_pond 4 = .ok (.ifCond .eq 13, 3) := by decide +kernel
theorem dX8_pond_7 : decode cX8_pond 7 = .ok (.iload_n 2, 1) := by decide +kernel
theorem dX8_pond_8 : decode cX8_pond 8 = .ok (.iconst 0, 1) := by decide +kernel
theorem dX8_pond_9 : decode cX8_pond 9 = .ok (.bipush 7, 2) := by decide +kernel
theorem dX8_pond_11 : decode cX8_pond 11 = .ok (.invokestatic 58, 3) := by decide +kernel
theorem dX8_pond_14 : decode cX8_pond 14 = .ok (.ifCond .ne 9, 3) := by decide +kernel
theorem dX8_pond_17 : decode cX8_pond 17 = .ok (.aload_n 0, 1) := by decide +kernel
theorem dX8_pond_18 : decode cX8_pond 18 = .ok (.iconst 0, 1) := by decide +kernel
theorem dX8_pond_19 : decode cX8_pond 19 = .ok (.invokevirtual 106, 3) := by decide +kernel
theorem dX8_pond_22 : decode cX8_pond 22 = .ok (.ireturn, 1) := by decide +kernel
theorem dX8_pond_23 : decode cX8_pond 23 = .ok (.iload_n 2, 1) := by decide +kernel
theorem dX8_pond_24 : decode cX8_pond 24 = .ok (.bipush 6, 2) := by decide +kernel
theorem dX8_pond_26 : decode cX8_pond 26 = .ok (.if_icmp .ge 12, 3) := by decide +kernel
theorem dX8_pond_29 : decode cX8_pond 29 = .ok (.aload_n 0, 1) := by decide +kernel
theorem dX8_pond_30 : decode cX8_pond 30 = .ok (.iload_n 1, 1) := by decide +kernel
theorem dX8_pond_31 : decode cX8_pond 31 = .ok (.iload_n 2, 1) := by decide +kernel
theorem dX8_pond_32 : decode cX8_pond 32 = .ok (.invokevirtual 66, 3) := by decide +kernel
theorem dX8_pond_35 : decode cX8_pond 35 = .ok (.goto 22, 3) := by decide +kernel
theorem dX8_pond_38 : decode cX8_pond 38 = .ok (.iload_n 2, 1) := by decide +kernel
theorem dX8_pond_39 : decode cX8_pond 39 = .ok (.bipush 6, 2) := by decide +kernel
theorem dX8_pond_41 : decode cX8_pond 41 = .ok (.if_icmp .ne 11, 3) := by decide +kernel
theorem dX8_pond_44 : decode cX8_pond 44 = .ok (.aload_n 0, 1) := by decide +kernel
theorem dX8_pond_45 : decode cX8_pond 45 = .ok (.iload_n 1, 1) := by decide +kernel
theorem dX8_pond_46 : decode cX8_pond 46 = .ok (.invokevirtual 69, 3) := by decide +kernel
theorem dX8_pond_49 : decode cX8_pond 49 = .ok (.goto 8, 3) := by decide +kernel
theorem dX8_pond_52 : decode cX8_pond 52 = .ok (.aload_n 0, 1) := by decide +kernel
theorem dX8_pond_53 : decode cX8_pond 53 = .ok (.iload_n 1, 1) := by decide +kernel
theorem dX8_pond_54 : decode cX8_pond 54 = .ok (.invokevirtual 73, 3) := by decide +kernel
theorem dX8_pond_57 : decode cX8_pond 57 = .ok (.ireturn, 1) := by decide +kernel
theorem dX8_isOfPond_0 : decode cX8_isOfPond 0 = .ok (.iload_n 1, 1) := by decide +kernel
theorem dX8_isOfPond_1 : decode cX8_isOfPond 1 = .ok (.iconst 1, 1) := by decide +kernel
theorem dX8_isOfPond_2 : decode cX8_isOfPond 2 = .ok (.if_icmp .ne 8, 3) := by decide +kernel
theorem dX8_isOfPond_5 : decode cX8_isOfPond 5 = .ok (.bipush 9, 2) := by decide +kernel
theorem dX8_isOfPond_7 : decode cX8_isOfPond 7 = .ok (.goto 33, 3) := by decide +kernel
theorem dX8_isOfPond_10 : decode cX8_isOfPond 10 = .ok (.iload_n 1, 1) := by decide +kernel
theorem dX8_isOfPond_11 : decode cX8_isOfPond 11 = .ok (.iconst 2, 1) := by decide +kernel
theorem dX8_isOfPond_12 : decode cX8_isOfPond 12 = .ok (.if_icmp .ne 7, 3) := by decide +kernel
theorem dX8_isOfPond_15 : decode cX8_isOfPond 15 = .ok (.iconst 3, 1) := by decide +kernel
theorem dX8_isOfPond_16 : decode cX8_isOfPond 16 = .ok (.goto 24, 3) := by decide +kernel
theorem dX8_isOfPond_19 : decode cX8_isOfPond 19 = .ok (.iload_n 1, 1) := by decide +kernel
theorem dX8_isOfPond_20 : decode cX8_isOfPond 20 = .ok (.iconst 3, 1) := by decide +kernel
theorem dX8_isOfPond_21 : decode cX8_isOfPond 21 = .ok (.if_icmp .ne 7, 3) := by decide +kernel
theorem dX8_isOfPond_24 : decode cX8_isOfPond 24 = .ok (.iconst 1, 1) := by decide +kernel
theorem dX8_isOfPond_25 : decode cX8_isOfPond 25 = .ok (.goto 15, 3) := by decide +kernel
theorem dX8_isOfPond_28 : decode cX8_isOfPond 28 = .ok (.iload_n 1, 1) := by decide +kernel
theorem dX8_isOfPond_29 : decode cX8_isOfPond 29 = .ok (.iconst 5, 1) := by decide +kernel
theorem dX8_isOfPond_30 : decode cX8_isOfPond 30 = .ok (.if_icmp .ne 8, 3) := by decide +kernel
theorem dX8_isOfPond_33 : decode cX8_isOfPond 33 = .ok (.bipush 99, 2) := by decide +kernel
theorem dX8_isOfPond_35 : decode cX8_isOfPond 35 = .ok (.goto 5, 3) := by decide +kernel
theorem dX8_isOfPond_38 : decode cX8_isOfPond 38 = .ok (.bipush 15, 2) := by decide +kernel
theorem dX8_isOfPond_40 : decode cX8_isOfPond 40 = .ok (.istore_n 3, 1) := by decide +kernel
theorem dX8_isOfPond_41 : decode cX8_isOfPond 41 = .ok (.iload_n 2, 1) := by decide +kernel
theorem dX8_isOfPond_42 : decode cX8_isOfPond 42 = .ok (.iload_n 1, 1) := by decide +kernel
theorem dX8_isOfPond_43 : decode cX8_isOfPond 43 = .ok (.iconst 1, 1) := by decide +kernel
theorem dX8_isOfPond_44 : decode cX8_isOfPond 44 = .ok (.if_icmp .ne 7, 3) := by decide +kernel
theorem dX8_isOfPond_47 : decode cX8_isOfPond 47 = .ok (.iconst 1, 1) := by decide +kernel
theorem dX8_isOfPond_48 : decode cX8_isOfPond 48 = .ok (.goto 4, 3) := by decide +kernel
theorem dX8_isOfPond_51 : decode cX8_isOfPond 51 = .ok (.iconst 0, 1) := by decide +kernel
theorem dX8_isOfPond_52 : decode cX8_isOfPond 52 = .ok (.iload_n 3, 1) := by decide +kernel
theorem dX8_isOfPond_53 : decode cX8_isOfPond 53 = .ok (.invokestatic 58, 3) := by decide +kernel
theorem dX8_isOfPond_56 : decode cX8_isOfPond 56 = .ok (.ifCond .eq 16, 3) := by decide +kernel
theorem dX8_isOfPond_59 : decode cX8_isOfPond 59 = .ok (.iload_n 1, 1) := by decide +kernel
theorem dX8_isOfPond_60 : decode cX8_isOfPond 60 = .ok (.ifCond .ne 8, 3) := by decide +kernel
theorem dX8_isOfPond_63 : decode cX8_isOfPond 63 = .ok (.iload_n 2, 1) := by decide +kernel
theorem dX8_isOfPond_64 : decode cX8_isOfPond 64 = .ok (.iload_n 0, 1) := by decide +kernel
theorem dX8_isOfPond_65 : decode cX8_isOfPond 65 = .ok (.if_icmp .eq 7, 3) := by decide +kernel
theorem dX8_isOfPond_68 : decode cX8_isOfPond 68 = .ok (.iconst 1, 1) := by decide +kernel
theorem dX8_isOfPond_69 : decode cX8_isOfPond 69 = .ok (.goto 4, 3) := by decide +kernel
theorem dX8_isOfPond_72 : decode cX8_isOfPond 72 = .ok (.iconst 0, 1) := by decide +kernel
theorem dX8_isOfPond_73 : decode cX8_isOfPond 73 = .ok (.ireturn, 1) := by decide +kernel
theorem dX8_dig_0 : decode cX8_dig 0 = .ok (.iload_n 1, 1) := by decide +kernel
theorem dX8_dig_1 : decode cX8_dig 1 = .ok (.invokestatic 102, 3) := by decide +kernel
theorem dX8_dig_4 : decode cX8_dig 4 = .ok (.ifCond .eq 21, 3) := by decide +kernel
theorem dX8_dig_7 : decode cX8_dig 7 = .ok (.iload_n 2, 1) := by decide +kernel
theorem dX8_dig_8 : decode cX8_dig 8 = .ok (.iconst 0, 1) := by decide +kernel
theorem dX8_dig_9 : decode cX8_dig 9 = .ok (.iconst 5, 1) := by decide +kernel
theorem dX8_dig_10 : decode cX8_dig 10 = .ok (.invokestatic 58, 3) := by decide +kernel
theorem dX8_dig_13 : decode cX8_dig 13 = .ok (.ifCond .eq 12, 3) := by decide +kernel
theorem dX8_dig_16 : decode cX8_dig 16 = .ok (.iload_n 1, 1) := by decide +kernel
theorem dX8_dig_17 : decode cX8_dig 17 = .ok (.iload_n 2, 1) := by decide +kernel
theorem dX8_dig_18 : decode cX8_dig 18 = .ok (.iload_n 3, 1) := by decide +kernel
theorem dX8_dig_19 : decode cX8_dig 19 = .ok (.invokestatic 109, 3) := by decide +kernel
theorem dX8_dig_22 : decode cX8_dig 22 = .ok (.ifCond .ne 9, 3) := by decide +kernel
theorem dX8_dig_25 : decode cX8_dig 25 = .ok (.aload_n 0, 1) := by decide +kernel
theorem dX8_dig_26 : decode cX8_dig 26 = .ok (.iconst 0, 1) := by decide +kernel
theorem dX8_dig_27 : decode cX8_dig 27 = .ok (.invokevirtual 106, 3) := by decide +kernel
theorem dX8_dig_30 : decode cX8_dig 30 = .ok (.ireturn, 1) := by decide +kernel
theorem dX8_dig_31 : decode cX8_dig 31 = .ok (.aload_n 0, 1) := by decide +kernel
theorem dX8_dig_32 : decode cX8_dig 32 = .ok (.iload_n 1, 1) := by decide +kernel
theorem dX8_dig_33 : decode cX8_dig 33 = .ok (.iload_n 2, 1) := by decide +kernel
theorem dX8_dig_34 : decode cX8_dig 34 = .ok (.invokevirtual 66, 3) := by decide +kernel
theorem dX8_dig_37 : decode cX8_dig 37 = .ok (.istore 4, 2) := by decide +kernel
theorem dX8_dig_39 : decode cX8_dig 39 = .ok (.aload_n 0, 1) := by decide +kernel
theorem dX8_dig_40 : decode cX8_dig 40 = .ok (.iload_n 1, 1) := by decide +kernel
theorem dX8_dig_41 : decode cX8_dig 41 = .ok (.iload_n 2, 1) := by decide +kernel
theorem dX8_dig_42 : decode cX8_dig 42 = .ok (.iload_n 3, 1) := by decide +kernel
theorem dX8_dig_43 : decode cX8_dig 43 = .ok (.invokevirtual 53, 3) := by decide +kernel
theorem dX8_dig_46 : decode cX8_dig 46 = .ok (.iload 4, 2) := by decide +kernel
theorem dX8_dig_48 : decode cX8_dig 48 = .ok (.ireturn, 1) := by decide +kernel
theorem dX8_addsThing_0 : decode cX8_addsThing 0 = .ok (.aload_n 0, 1) := by decide +kernel
theorem dX8_addsThing_1 : decode cX8_addsThing 1 = .ok (.getfield 9, 3) := by decide +kernel
theorem dX8_addsThing_4 : decode cX8_addsThing 4 = .ok (.iconst 1, 1) := by decide +kernel
theorem dX8_addsThing_5 : decode cX8_addsThing 5 = .ok (.iaload, 1) := by decide +kernel
theorem dX8_addsThing_6 : decode cX8_addsThing 6 = .ok (.istore_n 3, 1) := by decide +kernel
theorem dX8_addsThing_7 : decode cX8_addsThing 7 = .ok (.aload_n 0, 1) := by decide +kernel
theorem dX8_addsThing_8 : decode cX8_addsThing 8 = .ok (.iload_n 3, 1) := by decide +kernel
theorem dX8_addsThing_9 : decode cX8_addsThing 9 = .ok (.iconst 0, 1) := by decide +kernel
theorem dX8_addsThing_10 : decode cX8_addsThing 10 = .ok (.iload_n 1, 1) := by decide +kernel
theorem dX8_addsThing_11 : decode cX8_addsThing 11 = .ok (.invokevirtual 95, 3) := by decide +kernel
theorem dX8_addsThing_14 : decode cX8_addsThing 14 = .ok (.aload_n 0, 1) := by decide +kernel
theorem dX8_addsThing_15 : decode cX8_addsThing 15 = .ok (.iload_n 3, 1) := by decide +kernel
theorem dX8_addsThing_16 : decode cX8_addsThing 16 = .ok (.iconst 1, 1) := by decide +kernel
theorem dX8_addsThing_17 : decode cX8_addsThing 17 = .ok (.iload_n 2, 1) := by decide +kernel
theorem dX8_addsThing_18 : decode cX8_addsThing 18 = .ok (.invokevirtual 95, 3) := by decide +kernel
theorem dX8_addsThing_21 : decode cX8_addsThing 21 = .ok (.aload_n 0, 1) := by decide +kernel
theorem dX8_addsThing_22 : decode cX8_addsThing 22 = .ok (.iload_n 3, 1) := by decide +kernel
theorem dX8_addsThing_23 : decode cX8_addsThing 23 = .ok (.iconst 2, 1) := by decide +kernel
theorem dX8_addsThing_24 : decode cX8_addsThing 24 = .ok (.bipush 9, 2) := by decide +kernel
theorem dX8_addsThing_26 : decode cX8_addsThing 26 = .ok (.invokevirtual 95, 3) := by decide +kernel
theorem dX8_addsThing_29 : decode cX8_addsThing 29 = .ok (.aload_n 0, 1) := by decide +kernel
theorem dX8_addsThing_30 : decode cX8_addsThing 30 = .ok (.getfield 9, 3) := by decide +kernel
theorem dX8_addsThing_33 : decode cX8_addsThing 33 = .ok (.iconst 1, 1) := by decide +kernel
theorem dX8_addsThing_34 : decode cX8_addsThing 34 = .ok (.dup2, 1) := by decide +kernel
theorem dX8_addsThing_35 : decode cX8_addsThing 35 = .ok (.iaload, 1) := by decide +kernel
theorem dX8_addsThing_36 : decode cX8_addsThing 36 = .ok (.iconst 1, 1) := by decide +kernel
theorem dX8_addsThing_37 : decode cX8_addsThing 37 = .ok (.iadd, 1) := by decide +kernel
theorem dX8_addsThing_38 : decode cX8_addsThing 38 = .ok (.iastore, 1) := by decide +kernel
theorem dX8_addsThing_39 : decode cX8_addsThing 39 = .ok (.return_, 1) := by decide +kernel
theorem dX8_thing_0 : decode cX8_thing 0 = .ok (.iload_n 1, 1) := by decide +kernel
theorem dX8_thing_1 : decode cX8_thing 1 = .ok (.iconst 0, 1) := by decide +kernel
theorem dX8_thing_2 : decode cX8_thing 2 = .ok (.bipush 6, 2) := by decide +kernel
theorem dX8_thing_4 : decode cX8_thing 4 = .ok (.invokestatic 58, 3) := by decide +kernel
theorem dX8_thing_7 : decode cX8_thing 7 = .ok (.ifCond .eq 10, 3) := by decide +kernel
theorem dX8_thing_10 : decode cX8_thing 10 = .ok (.iload_n 2, 1) := by decide +kernel
theorem dX8_thing_11 : decode cX8_thing 11 = .ok (.invokestatic 102, 3) := by decide +kernel
theorem dX8_thing_14 : decode cX8_thing 14 = .ok (.ifCond .ne 9, 3) := by decide +kernel
theorem dX8_thing_17 : decode cX8_thing 17 = .ok (.aload_n 0, 1) := by decide +kernel
theorem dX8_thing_18 : decode cX8_thing 18 = .ok (.iconst 0, 1) := by decide +kernel
theorem dX8_thing_19 : decode cX8_thing 19 = .ok (.invokevirtual 106, 3) := by decide +kernel
theorem dX8_thing_22 : decode cX8_thing 22 = .ok (.ireturn, 1) := by decide +kernel
theorem dX8_thing_23 : decode cX8_thing 23 = .ok (.aload_n 0, 1) := by decide +kernel
theorem dX8_thing_24 : decode cX8_thing 24 = .ok (.getfield 9, 3) := by decide +kernel
theorem dX8_thing_27 : decode cX8_thing 27 = .ok (.iconst 1, 1) := by decide +kernel
theorem dX8_thing_28 : decode cX8_thing 28 = .ok (.iaload, 1) := by decide +kernel
theorem dX8_thing_29 : decode cX8_thing 29 = .ok (.bipush 8, 2) := by decide +kernel
theorem dX8_thing_31 : decode cX8_thing 31 = .ok (.if_icmp .ne 9, 3) := by decide +kernel
theorem dX8_thing_34 : decode cX8_thing 34 = .ok (.aload_n 0, 1) := by decide +kernel
theorem dX8_thing_35 : decode cX8_thing 35 = .ok (.iconst 1, 1) := by decide +kernel
theorem dX8_thing_36 : decode cX8_thing 36 = .ok (.invokevirtual 106, 3) := by decide +kernel
theorem dX8_thing_39 : decode cX8_thing 39 = .ok (.ireturn, 1) := by decide +kernel
theorem dX8_thing_40 : decode cX8_thing 40 = .ok (.aload_n 0, 1) := by decide +kernel
theorem dX8_thing_41 : decode cX8_thing 41 = .ok (.iload_n 1, 1) := by decide +kernel
theorem dX8_thing_42 : decode cX8_thing 42 = .ok (.iload_n 2, 1) := by decide +kernel
theorem dX8_thing_43 : decode cX8_thing 43 = .ok (.invokevirtual 112, 3) := by decide +kernel
theorem dX8_thing_46 : decode cX8_thing 46 = .ok (.aload_n 0, 1) := by decide +kernel
theorem dX8_thing_47 : decode cX8_thing 47 = .ok (.getfield 9, 3) := by decide +kernel
theorem dX8_thing_50 : decode cX8_thing 50 = .ok (.iconst 1, 1) := by decide +kernel
theorem dX8_thing_51 : decode cX8_thing 51 = .ok (.iaload, 1) := by decide +kernel
theorem dX8_thing_52 : decode cX8_thing 52 = .ok (.iconst 1, 1) := by decide +kernel
theorem dX8_thing_53 : decode cX8_thing 53 = .ok (.isub, 1) := by decide +kernel
theorem dX8_thing_54 : decode cX8_thing 54 = .ok (.ireturn, 1) := by decide +kernel
theorem dX8_of_0 : decode cX8_of 0 = .ok (.aload_n 0, 1) := by decide +kernel
theorem dX8_of_1 : decode cX8_of 1 = .ok (.iload_n 1, 1) := by decide +kernel
theorem dX8_of_2 : decode cX8_of 2 = .ok (.invokevirtual 116, 3) := by decide +kernel
theorem dX8_of_5 : decode cX8_of 5 = .ok (.ifCond .eq 12, 3) := by decide +kernel
theorem dX8_of_8 : decode cX8_of 8 = .ok (.iload_n 2, 1) := by decide +kernel
theorem dX8_of_9 : decode cX8_of 9 = .ok (.iconst 0, 1) := by decide +kernel
theorem dX8_of_10 : decode cX8_of 10 = .ok (.iconst 4, 1) := by decide +kernel
theorem dX8_of_11 : decode cX8_of 11 = .ok (.invokestatic 58, 3) := by decide +kernel
theorem dX8_of_14 : decode cX8_of 14 = .ok (.ifCond .ne 9, 3) := by decide +kernel
theorem dX8_of_17 : decode cX8_of 17 = .ok (.aload_n 0, 1) := by decide +kernel
theorem dX8_of_18 : decode cX8_of 18 = .ok (.iconst 0, 1) := by decide +kernel
theorem dX8_of_19 : decode cX8_of 19 = .ok (.invokevirtual 106, 3) := by decide +kernel
theorem dX8_of_22 : decode cX8_of 22 = .ok (.ireturn, 1) := by decide +kernel
theorem dX8_of_23 : decode cX8_of 23 = .ok (.iload_n 2, 1) := by decide +kernel
theorem dX8_of_24 : decode cX8_of 24 = .ok (.iconst 3, 1) := by decide +kernel
theorem dX8_of_25 : decode cX8_of 25 = .ok (.if_icmp .ge 12, 3) := by decide +kernel
theorem dX8_of_28 : decode cX8_of 28 = .ok (.aload_n 0, 1) := by decide +kernel
theorem dX8_of_29 : decode cX8_of 29 = .ok (.iload_n 1, 1) := by decide +kernel
theorem dX8_of_30 : decode cX8_of 30 = .ok (.iload_n 2, 1) := by decide +kernel
theorem dX8_of_31 : decode cX8_of 31 = .ok (.invokevirtual 62, 3) := by decide +kernel
theorem dX8_of_34 : decode cX8_of 34 = .ok (.goto 26, 3) := by decide +kernel
theorem dX8_of_37 : decode cX8_of 37 = .ok (.iload_n 2, 1) := by decide +kernel
theorem dX8_of_38 : decode cX8_of 38 = .ok (.iconst 3, 1) := by decide +kernel
theorem dX8_of_39 : decode cX8_of 39 = .ok (.if_icmp .ne 11, 3) := by decide +kernel
theorem dX8_of_42 : decode cX8_of 42 = .ok (.aload_n 0, 1) := by decide +kernel
theorem dX8_of_43 : decode cX8_of 43 = .ok (.iload_n 1, 1) := by decide +kernel
theorem dX8_of_44 : decode cX8_of 44 = .ok (.invokevirtual 92, 3) := by decide +kernel
theorem dX8_of_47 : decode cX8_of 47 = .ok (.goto 13, 3) := by decide +kernel
theorem dX8_of_50 : decode cX8_of 50 = .ok (.aload_n 0, 1) := by decide +kernel
theorem dX8_of_51 : decode cX8_of 51 = .ok (.aload_n 0, 1) := by decide +kernel
theorem dX8_of_52 : decode cX8_of 52 = .ok (.iload_n 1, 1) := by decide +kernel
theorem dX8_of_53 : decode cX8_of 53 = .ok (.iconst 1, 1) := by decide +kernel
theorem dX8_of_54 : decode cX8_of 54 = .ok (.invokevirtual 62, 3) := by decide +kernel
theorem dX8_of_57 : decode cX8_of 57 = .ok (.invokevirtual 76, 3) := by decide +kernel
theorem dX8_of_60 : decode cX8_of 60 = .ok (.ireturn, 1) := by decide +kernel
theorem dX8_change_0 : decode cX8_change 0 = .ok (.aload_n 0, 1) := by decide +kernel
theorem dX8_change_1 : decode cX8_change 1 = .ok (.iload_n 1, 1) := by decide +kernel
theorem dX8_change_2 : decode cX8_change 2 = .ok (.invokevirtual 116, 3) := by decide +kernel
theorem dX8_change_5 : decode cX8_change 5 = .ok (.ifCond .eq 50, 3) := by decide +kernel
theorem dX8_change_8 : decode cX8_change 8 = .ok (.iload_n 2, 1) := by decide +kernel
theorem dX8_change_9 : decode cX8_change 9 = .ok (.iconst 0, 1) := by decide +kernel
theorem dX8_change_10 : decode cX8_change 10 = .ok (.iconst 2, 1) := by decide +kernel
theorem dX8_change_11 : decode cX8_change 11 = .ok (.invokestatic 58, 3) := by decide +kernel
theorem dX8_change_14 : decode cX8_change 14 = .ok (.ifCond .eq 41, 3) := by decide +kernel
theorem dX8_change_17 : decode cX8_change 17 = .ok (.iload_n 3, 1) := by decide +kernel
theorem dX8_change_18 : decode cX8_change 18 = .ok (.iload_n 2, 1) := by decide +kernel
theorem dX8_change_19 : decode cX8_change 19 = .ok (.iconst 2, 1) := by decide +kernel
theorem dX8_change_20 : decode cX8_change 20 = .ok (.if_icmp .ne 7, 3) := by decide +kernel
theorem dX8_change_23 : decode cX8_change 23 = .ok (.iconst 1, 1) := by decide +kernel
theorem dX8_change_24 : decode cX8_change 24 = .ok (.goto 4, 3) := by decide +kernel
theorem dX8_change_27 : decode cX8_change 27 = .ok (.iconst 0, 1) := by decide +kernel
theorem dX8_change_28 : decode cX8_change 28 = .ok (.iload_n 2, 1) := by decide +kernel
theorem dX8_change_29 : decode cX8_change 29 = .ok (.ifCond .ne 8, 3) := by decide +kernel
theorem dX8_change_32 : decode cX8_change 32 = .ok (.bipush 6, 2) := by decide +kernel
theorem dX8_change_34 : decode cX8_change 34 = .ok (.goto 15, 3) := by decide +kernel
theorem dX8_change_37 : decode cX8_change 37 = .ok (.iload_n 2, 1) := by decide +kernel
theorem dX8_change_38 : decode cX8_change 38 = .ok (.iconst 1, 1) := by decide +kernel
theorem dX8_change_39 : decode cX8_change 39 = .ok (.if_icmp .ne 8, 3) := by decide +kernel
theorem dX8_change_42 : decode cX8_change 42 = .ok (.bipush 15, 2) := by decide +kernel
theorem dX8_change_44 : decode cX8_change 44 = .ok (.goto 5, 3) := by decide +kernel
theorem dX8_change_47 : decode cX8_change 47 = .ok (.bipush 99, 2) := by decide +kernel
theorem dX8_change_49 : decode cX8_change 49 = .ok (.invokestatic 58, 3) := by decide +kernel
theorem dX8_change_52 : decode cX8_change 52 = .ok (.ifCond .ne 9, 3) := by decide +kernel
theorem dX8_change_55 : decode cX8_change 55 = .ok (.aload_n 0, 1) := by decide +kernel
theorem dX8_change_56 : decode cX8_change 56 = .ok (.iconst 0, 1) := by decide +kernel
theorem dX8_change_57 : decode cX8_change 57 = .ok (.invokevirtual 106, 3) := by decide +kernel
theorem dX8_change_60 : decode cX8_change 60 = .ok (.ireturn, 1) := by decide +kernel
theorem dX8_change_61 : decode cX8_change 61 = .ok (.aload_n 0, 1) := by decide +kernel
theorem dX8_change_62 : decode cX8_change 62 = .ok (.iload_n 1, 1) := by decide +kernel
theorem dX8_change_63 : decode cX8_change 63 = .ok (.iload_n 2, 1) := by decide +kernel
theorem dX8_change_64 : decode cX8_change 64 = .ok (.invokevirtual 62, 3) := by decide +kernel
theorem dX8_change_67 : decode cX8_change 67 = .ok (.istore 4, 2) := by decide +kernel
theorem dX8_change_69 : decode cX8_change 69 = .ok (.aload_n 0, 1) := by decide +kernel
theorem dX8_change_70 : decode cX8_change 70 = .ok (.iload_n 1, 1) := by decide +kernel
theorem dX8_change_71 : decode cX8_change 71 = .ok (.iload_n 2, 1) := by decide +kernel
theorem dX8_change_72 : decode cX8_change 72 = .ok (.iload_n 3, 1) := by decide +kernel
theorem dX8_change_73 : decode cX8_change 73 = .ok (.invokevirtual 95, 3) := by decide +kernel
theorem dX8_change_76 : decode cX8_change 76 = .ok (.iload 4, 2) := by decide +kernel
theorem dX8_change_78 : decode cX8_change 78 = .ok (.ireturn, 1) := by decide +kernel
theorem dX8_rain_0 : decode cX8_rain 0 = .ok (.iload_n 1, 1) := by decide +kernel
theorem dX8_rain_1 : decode cX8_rain 1 = .ok (.iconst 0, 1) := by decide +kernel
theorem dX8_rain_2 : decode cX8_rain 2 = .ok (.iconst 1, 1) := by decide +kernel
theorem dX8_rain_3 : decode cX8_rain 3 = .ok (.invokestatic 58, 3) := by decide +kernel
theorem dX8_rain_6 : decode cX8_rain 6 = .ok (.ifCond .ne 9, 3) := by decide +kernel
theorem dX8_rain_9 : decode cX8_rain 9 = .ok (.aload_n 0, 1) := by decide +kernel
theorem dX8_rain_10 : decode cX8_rain 10 = .ok (.iconst 0, 1) := by decide +kernel
theorem dX8_rain_11 : decode cX8_rain 11 = .ok (.invokevirtual 106, 3) := by decide +kernel
theorem dX8_rain_14 : decode cX8_rain 14 = .ok (.ireturn, 1) := by decide +kernel
theorem dX8_rain_15 : decode cX8_rain 15 = .ok (.aload_n 0, 1) := by decide +kernel
theorem dX8_rain_16 : decode cX8_rain 16 = .ok (.getfield 9, 3) := by decide +kernel
theorem dX8_rain_19 : decode cX8_rain 19 = .ok (.iconst 3, 1) := by decide +kernel
theorem dX8_rain_20 : decode cX8_rain 20 = .ok (.iaload, 1) := by decide +kernel
theorem dX8_rain_21 : decode cX8_rain 21 = .ok (.istore_n 2, 1) := by decide +kernel
theorem dX8_rain_22 : decode cX8_rain 22 = .ok (.aload_n 0, 1) := by decide +kernel
theorem dX8_rain_23 : decode cX8_rain 23 = .ok (.getfield 9, 3) := by decide +kernel
theorem dX8_rain_26 : decode cX8_rain 26 = .ok (.iconst 3, 1) := by decide +kernel
theorem dX8_rain_27 : decode cX8_rain 27 = .ok (.iload_n 1, 1) := by decide +kernel
theorem dX8_rain_28 : decode cX8_rain 28 = .ok (.iastore, 1) := by decide +kernel
theorem dX8_rain_29 : decode cX8_rain 29 = .ok (.iload_n 2, 1) := by decide +kernel
theorem dX8_rain_30 : decode cX8_rain 30 = .ok (.ireturn, 1) := by decide +kernel
theorem dX8_go_0 : decode cX8_go 0 = .ok (.iload_n 1, 1) := by decide +kernel
theorem dX8_go_1 : decode cX8_go 1 = .ok (.iconst 1, 1) := by decide +kernel
theorem dX8_go_2 : decode cX8_go 2 = .ok (.bipush 60, 2) := by decide +kernel
theorem dX8_go_4 : decode cX8_go 4 = .ok (.invokestatic 58, 3) := by decide +kernel
theorem dX8_go_7 : decode cX8_go 7 = .ok (.ifCond .ne 9, 3) := by decide +kernel
theorem dX8_go_10 : decode cX8_go 10 = .ok (.aload_n 0, 1) := by decide +kernel
theorem dX8_go_11 : decode cX8_go 11 = .ok (.iconst 0, 1) := by decide +kernel
theorem dX8_go_12 : decode cX8_go 12 = .ok (.invokevirtual 106, 3) := by decide +kernel
theorem dX8_go_15 : decode cX8_go 15 = .ok (.ireturn, 1) := by decide +kernel
theorem dX8_go_16 : decode cX8_go 16 = .ok (.aload_n 0, 1) := by decide +kernel
theorem dX8_go_17 : decode cX8_go 17 = .ok (.getfield 9, 3) := by decide +kernel
theorem dX8_go_20 : decode cX8_go 20 = .ok (.iconst 0, 1) := by decide +kernel
theorem dX8_go_21 : decode cX8_go 21 = .ok (.iaload, 1) := by decide +kernel
theorem dX8_go_22 : decode cX8_go 22 = .ok (.iload_n 1, 1) := by decide +kernel
theorem dX8_go_23 : decode cX8_go 23 = .ok (.iadd, 1) := by decide +kernel
theorem dX8_go_24 : decode cX8_go 24 = .ok (.ldc 98, 2) := by decide +kernel
theorem dX8_go_26 : decode cX8_go 26 = .ok (.if_icmp .le 9, 3) := by decide +kernel
theorem dX8_go_29 : decode cX8_go 29 = .ok (.aload_n 0, 1) := by decide +kernel
theorem dX8_go_30 : decode cX8_go 30 = .ok (.iconst 4, 1) := by decide +kernel
theorem dX8_go_31 : decode cX8_go 31 = .ok (.invokevirtual 106, 3) := by decide +kernel
theorem dX8_go_34 : decode cX8_go 34 = .ok (.ireturn, 1) := by decide +kernel
theorem dX8_go_35 : decode cX8_go 35 = .ok (.iconst 0, 1) := by decide +kernel
theorem dX8_go_36 : decode cX8_go 36 = .ok (.istore_n 2, 1) := by decide +kernel
theorem dX8_go_37 : decode cX8_go 37 = .ok (.iload_n 2, 1) := by decide +kernel
theorem dX8_go_38 : decode cX8_go 38 = .ok (.iload_n 1, 1) := by decide +kernel
theorem dX8_go_39 : decode cX8_go 39 = .ok (.if_icmp .ge 13, 3) := by decide +kernel
theorem dX8_go_42 : decode cX8_go 42 = .ok (.aload_n 0, 1) := by decide +kernel
theorem dX8_go_43 : decode cX8_go 43 = .ok (.invokevirtual 119, 3) := by decide +kernel
theorem dX8_go_46 : decode cX8_go 46 = .ok (.iinc 2 1, 3) := by decide +kernel
theorem dX8_go_49 : decode cX8_go 49 = .ok (.goto (-12), 3) := by decide +kernel
theorem dX8_go_52 : decode cX8_go 52 = .ok (.aload_n 0, 1) := by decide +kernel
theorem dX8_go_53 : decode cX8_go 53 = .ok (.getfield 9, 3) := by decide +kernel
theorem dX8_go_56 : decode cX8_go 56 = .ok (.iconst 0, 1) := by decide +kernel
theorem dX8_go_57 : decode cX8_go 57 = .ok (.iaload, 1) := by decide +kernel
theorem dX8_go_58 : decode cX8_go 58 = .ok (.ireturn, 1) := by decide +kernel
theorem dX8_now_0 : decode cX8_now 0 = .ok (.iload_n 1, 1) := by decide +kernel
theorem dX8_now_1 : decode cX8_now 1 = .ok (.tableswitch 66 0 4 #[35, 42, 48, 54, 61], 35) := by decide +kernel
theorem dX8_now_36 : decode cX8_now 36 = .ok (.aload_n 0, 1) := by decide +kernel
theorem dX8_now_37 : decode cX8_now 37 = .ok (.getfield 9, 3) := by decide +kernel
theorem dX8_now_40 : decode cX8_now 40 = .ok (.iconst 0, 1) := by decide +kernel
theorem dX8_now_41 : decode cX8_now 41 = .ok (.iaload, 1) := by decide +kernel
theorem dX8_now_42 : decode cX8_now 42 = .ok (.ireturn, 1) := by decide +kernel
theorem dX8_now_43 : decode cX8_now 43 = .ok (.aload_n 0, 1) := by decide +kernel
theorem dX8_now_44 : decode cX8_now 44 = .ok (.iconst 0, 1) := by decide +kernel
theorem dX8_now_45 : decode cX8_now 45 = .ok (.invokevirtual 122, 3) := by decide +kernel
theorem dX8_now_48 : decode cX8_now 48 = .ok (.ireturn, 1) := by decide +kernel
theorem dX8_now_49 : decode cX8_now 49 = .ok (.aload_n 0, 1) := by decide +kernel
theorem dX8_now_50 : decode cX8_now 50 = .ok (.iconst 1, 1) := by decide +kernel
theorem dX8_now_51 : decode cX8_now 51 = .ok (.invokevirtual 122, 3) := by decide +kernel
theorem dX8_now_54 : decode cX8_now 54 = .ok (.ireturn, 1) := by decide +kernel
theorem dX8_now_55 : decode cX8_now 55 = .ok (.aload_n 0, 1) := by decide +kernel
theorem dX8_now_56 : decode cX8_now 56 = .ok (.getfield 9, 3) := by decide +kernel
theorem dX8_now_59 : decode cX8_now 59 = .ok (.iconst 3, 1) := by decide +kernel
theorem dX8_now_60 : decode cX8_now 60 = .ok (.iaload, 1) := by decide +kernel
theorem dX8_now_61 : decode cX8_now 61 = .ok (.ireturn, 1) := by decide +kernel
theorem dX8_now_62 : decode cX8_now 62 = .ok (.aload_n 0, 1) := by decide +kernel
theorem dX8_now_63 : decode cX8_now 63 = .ok (.invokevirtual 126, 3) := by decide +kernel
theorem dX8_now_66 : decode cX8_now 66 = .ok (.ireturn, 1) := by decide +kernel
theorem dX8_now_67 : decode cX8_now 67 = .ok (.aload_n 0, 1) := by decide +kernel
theorem dX8_now_68 : decode cX8_now 68 = .ok (.iconst 0, 1) := by decide +kernel
theorem dX8_now_69 : decode cX8_now 69 = .ok (.invokevirtual 106, 3) := by decide +kernel
theorem dX8_now_72 : decode cX8_now 72 = .ok (.ireturn, 1) := by decide +kernel
theorem dX8_begins_0 : decode cX8_begins 0 = .ok (.aload_n 0, 1) := by decide +kernel
theorem dX8_begins_1 : decode cX8_begins 1 = .ok (.iload_n 1, 1) := by decide +kernel
theorem dX8_begins_2 : decode cX8_begins 2 = .ok (.putfield 130, 3) := by decide +kernel
theorem dX8_begins_5 : decode cX8_begins 5 = .ok (.aload_n 0, 1) := by decide +kernel
theorem dX8_begins_6 : decode cX8_begins 6 = .ok (.bipush 81, 2) := by decide +kernel
theorem dX8_begins_8 : decode cX8_begins 8 = .ok (.putfield 134, 3) := by decide +kernel
theorem dX8_begins_11 : decode cX8_begins 11 = .ok (.aload_n 0, 1) := by decide +kernel
theorem dX8_begins_12 : decode cX8_begins 12 = .ok (.iconst 0, 1) := by decide +kernel
theorem dX8_begins_13 : decode cX8_begins 13 = .ok (.putfield 137, 3) := by decide +kernel
theorem dX8_begins_16 : decode cX8_begins 16 = .ok (.aload_n 0, 1) := by decide +kernel
theorem dX8_begins_17 : decode cX8_begins 17 = .ok (.iconst 0, 1) := by decide +kernel
theorem dX8_begins_18 : decode cX8_begins 18 = .ok (.putfield 140, 3) := by decide +kernel
theorem dX8_begins_21 : decode cX8_begins 21 = .ok (.return_, 1) := by decide +kernel
theorem dX8_steps_0 : decode cX8_steps 0 = .ok (.aload_n 0, 1) := by decide +kernel
theorem dX8_steps_1 : decode cX8_steps 1 = .ok (.ldc 98, 2) := by decide +kernel
theorem dX8_steps_3 : decode cX8_steps 3 = .ok (.aload_n 0, 1) := by decide +kernel
theorem dX8_steps_4 : decode cX8_steps 4 = .ok (.getfield 134, 3) := by decide +kernel
theorem dX8_steps_7 : decode cX8_steps 7 = .ok (.aload_n 0, 1) := by decide +kernel
theorem dX8_steps_8 : decode cX8_steps 8 = .ok (.aload_n 0, 1) := by decide +kernel
theorem dX8_steps_9 : decode cX8_steps 9 = .ok (.getfield 130, 3) := by decide +kernel
theorem dX8_steps_12 : decode cX8_steps 12 = .ok (.iconst 1, 1) := by decide +kernel
theorem dX8_steps_13 : decode cX8_steps 13 = .ok (.invokevirtual 66, 3) := by decide +kernel
theorem dX8_steps_16 : decode cX8_steps 16 = .ok (.imul, 1) := by decide +kernel
theorem dX8_steps_17 : decode cX8_steps 17 = .ok (.iconst 3, 1) := by decide +kernel
theorem dX8_steps_18 : decode cX8_steps 18 = .ok (.idiv, 1) := by decide +kernel
theorem dX8_steps_19 : decode cX8_steps 19 = .ok (.invokestatic 99, 3) := by decide +kernel
theorem dX8_steps_22 : decode cX8_steps 22 = .ok (.putfield 134, 3) := by decide +kernel
theorem dX8_steps_25 : decode cX8_steps 25 = .ok (.aload_n 0, 1) := by decide +kernel
theorem dX8_steps_26 : decode cX8_steps 26 = .ok (.aload_n 0, 1) := by decide +kernel
theorem dX8_steps_27 : decode cX8_steps 27 = .ok (.getfield 137, 3) := by decide +kernel
theorem dX8_steps_30 : decode cX8_steps 30 = .ok (.aload_n 0, 1) := by decide +kernel
theorem dX8_steps_31 : decode cX8_steps 31 = .ok (.getfield 140, 3) := by decide +kernel
theorem dX8_steps_34 : decode cX8_steps 34 = .ok (.ifCond .ne 15, 3) := by decide +kernel
theorem dX8_steps_37 : decode cX8_steps 37 = .ok (.aload_n 0, 1) := by decide +kernel
theorem dX8_steps_38 : decode cX8_steps 38 = .ok (.aload_n 0, 1) := by decide +kernel
theorem dX8_steps_39 : decode cX8_steps 39 = .ok (.getfield 130, 3) := by decide +kernel
theorem dX8_steps_42 : decode cX8_steps 42 = .ok (.iconst 2, 1) := by decide +kernel
theorem dX8_steps_43 : decode cX8_steps 43 = .ok (.invokevirtual 66, 3) := by decide +kernel
theorem dX8_steps_46 : decode cX8_steps 46 = .ok (.goto 14, 3) := by decide +kernel
theorem dX8_steps_49 : decode cX8_steps 49 = .ok (.iconst 4, 1) := by decide +kernel
theorem dX8_steps_50 : decode cX8_steps 50 = .ok (.aload_n 0, 1) := by decide +kernel
theorem dX8_steps_51 : decode cX8_steps 51 = .ok (.aload_n 0, 1) := by decide +kernel
theorem dX8_steps_52 : decode cX8_steps 52 = .ok (.getfield 130, 3) := by decide +kernel
theorem dX8_steps_55 : decode cX8_steps 55 = .ok (.iconst 2, 1) := by decide +kernel
theorem dX8_steps_56 : decode cX8_steps 56 = .ok (.invokevirtual 66, 3) := by decide +kernel
theorem dX8_steps_59 : decode cX8_steps 59 = .ok (.isub, 1) := by decide +kernel
theorem dX8_steps_60 : decode cX8_steps 60 = .ok (.iadd, 1) := by decide +kernel
theorem dX8_steps_61 : decode cX8_steps 61 = .ok (.iconst 4, 1) := by decide +kernel
theorem dX8_steps_62 : decode cX8_steps 62 = .ok (.irem, 1) := by decide +kernel
theorem dX8_steps_63 : decode cX8_steps 63 = .ok (.putfield 137, 3) := by decide +kernel
theorem dX8_steps_66 : decode cX8_steps 66 = .ok (.aload_n 0, 1) := by decide +kernel
theorem dX8_steps_67 : decode cX8_steps 67 = .ok (.dup, 1) := by decide +kernel
theorem dX8_steps_68 : decode cX8_steps 68 = .ok (.getfield 140, 3) := by decide +kernel
theorem dX8_steps_71 : decode cX8_steps 71 = .ok (.aload_n 0, 1) := by decide +kernel
theorem dX8_steps_72 : decode cX8_steps 72 = .ok (.aload_n 0, 1) := by decide +kernel
theorem dX8_steps_73 : decode cX8_steps 73 = .ok (.getfield 130, 3) := by decide +kernel
theorem dX8_steps_76 : decode cX8_steps 76 = .ok (.iconst 3, 1) := by decide +kernel
theorem dX8_steps_77 : decode cX8_steps 77 = .ok (.invokevirtual 66, 3) := by decide +kernel
theorem dX8_steps_80 : decode cX8_steps 80 = .ok (.ixor, 1) := by decide +kernel
theorem dX8_steps_81 : decode cX8_steps 81 = .ok (.putfield 140, 3) := by decide +kernel
theorem dX8_steps_84 : decode cX8_steps 84 = .ok (.aload_n 0, 1) := by decide +kernel
theorem dX8_steps_85 : decode cX8_steps 85 = .ok (.aload_n 0, 1) := by decide +kernel
theorem dX8_steps_86 : decode cX8_steps 86 = .ok (.aload_n 0, 1) := by decide +kernel
theorem dX8_steps_87 : decode cX8_steps 87 = .ok (.getfield 130, 3) := by decide +kernel
theorem dX8_steps_90 : decode cX8_steps 90 = .ok (.iconst 0, 1) := by decide +kernel
theorem dX8_steps_91 : decode cX8_steps 91 = .ok (.invokevirtual 66, 3) := by decide +kernel
theorem dX8_steps_94 : decode cX8_steps 94 = .ok (.putfield 130, 3) := by decide +kernel
theorem dX8_steps_97 : decode cX8_steps 97 = .ok (.return_, 1) := by decide +kernel
theorem dX8_goesThrough_0 : decode cX8_goesThrough 0 = .ok (.aload_n 0, 1) := by decide +kernel
theorem dX8_goesThrough_1 : decode cX8_goesThrough 1 = .ok (.iload_n 1, 1) := by decide +kernel
theorem dX8_goesThrough_2 : decode cX8_goesThrough 2 = .ok (.invokevirtual 143, 3) := by decide +kernel
theorem dX8_goesThrough_5 : decode cX8_goesThrough 5 = .ok (.iconst 0, 1) := by decide +kernel
theorem dX8_goesThrough_6 : decode cX8_goesThrough 6 = .ok (.istore_n 3, 1) := by decide +kernel
theorem dX8_goesThrough_7 : decode cX8_goesThrough 7 = .ok (.iload_n 3, 1) := by decide +kernel
theorem dX8_goesThrough_8 : decode cX8_goesThrough 8 = .ok (.iload_n 2, 1) := by decide +kernel
theorem dX8_goesThrough_9 : decode cX8_goesThrough 9 = .ok (.if_icmp .ge 13, 3) := by decide +kernel
theorem dX8_goesThrough_12 : decode cX8_goesThrough 12 = .ok (.aload_n 0, 1) := by decide +kernel
theorem dX8_goesThrough_13 : decode cX8_goesThrough 13 = .ok (.invokevirtual 147, 3) := by decide +kernel
theorem dX8_goesThrough_16 : decode cX8_goesThrough 16 = .ok (.iinc 3 1, 3) := by decide +kernel
theorem dX8_goesThrough_19 : decode cX8_goesThrough 19 = .ok (.goto (-12), 3) := by decide +kernel
theorem dX8_goesThrough_22 : decode cX8_goesThrough 22 = .ok (.return_, 1) := by decide +kernel
theorem dX8_chain_0 : decode cX8_chain 0 = .ok (.iload_n 1, 1) := by decide +kernel
theorem dX8_chain_1 : decode cX8_chain 1 = .ok (.invokestatic 102, 3) := by decide +kernel
theorem dX8_chain_4 : decode cX8_chain 4 = .ok (.ifCond .eq 22, 3) := by decide +kernel
theorem dX8_chain_7 : decode cX8_chain 7 = .ok (.iload_n 2, 1) := by decide +kernel
theorem dX8_chain_8 : decode cX8_chain 8 = .ok (.iconst 0, 1) := by decide +kernel
theorem dX8_chain_9 : decode cX8_chain 9 = .ok (.bipush 16, 2) := by decide +kernel
theorem dX8_chain_11 : decode cX8_chain 11 = .ok (.invokestatic 58, 3) := by decide +kernel
theorem dX8_chain_14 : decode cX8_chain 14 = .ok (.ifCond .eq 12, 3) := by decide +kernel
theorem dX8_chain_17 : decode cX8_chain 17 = .ok (.iload_n 3, 1) := by decide +kernel
theorem dX8_chain_18 : decode cX8_chain 18 = .ok (.iconst 0, 1) := by decide +kernel
theorem dX8_chain_19 : decode cX8_chain 19 = .ok (.iconst 3, 1) := by decide +kernel
theorem dX8_chain_20 : decode cX8_chain 20 = .ok (.invokestatic 58, 3) := by decide +kernel
theorem dX8_chain_23 : decode cX8_chain 23 = .ok (.ifCond .ne 9, 3) := by decide +kernel
theorem dX8_chain_26 : decode cX8_chain 26 = .ok (.aload_n 0, 1) := by decide +kernel
theorem dX8_chain_27 : decode cX8_chain 27 = .ok (.iconst 0, 1) := by decide +kernel
theorem dX8_chain_28 : decode cX8_chain 28 = .ok (.invokevirtual 106, 3) := by decide +kernel
theorem dX8_chain_31 : decode cX8_chain 31 = .ok (.ireturn, 1) := by decide +kernel
theorem dX8_chain_32 : decode cX8_chain 32 = .ok (.aload_n 0, 1) := by decide +kernel
theorem dX8_chain_33 : decode cX8_chain 33 = .ok (.iload_n 1, 1) := by decide +kernel
theorem dX8_chain_34 : decode cX8_chain 34 = .ok (.iload_n 2, 1) := by decide +kernel
theorem dX8_chain_35 : decode cX8_chain 35 = .ok (.invokevirtual 150, 3) := by decide +kernel
theorem dX8_chain_38 : decode cX8_chain 38 = .ok (.iload_n 3, 1) := by decide +kernel
theorem dX8_chain_39 : decode cX8_chain 39 = .ok (.ifCond .ne 10, 3) := by decide +kernel
theorem dX8_chain_42 : decode cX8_chain 42 = .ok (.aload_n 0, 1) := by decide +kernel
theorem dX8_chain_43 : decode cX8_chain 43 = .ok (.getfield 130, 3) := by decide +kernel
theorem dX8_chain_46 : decode cX8_chain 46 = .ok (.goto 31, 3) := by decide +kernel
theorem dX8_chain_49 : decode cX8_chain 49 = .ok (.iload_n 3, 1) := by decide +kernel
theorem dX8_chain_50 : decode cX8_chain 50 = .ok (.iconst 1, 1) := by decide +kernel
theorem dX8_chain_51 : decode cX8_chain 51 = .ok (.if_icmp .ne 10, 3) := by decide +kernel
theorem dX8_chain_54 : decode cX8_chain 54 = .ok (.aload_n 0, 1) := by decide +kernel
theorem dX8_chain_55 : decode cX8_chain 55 = .ok (.getfield 134, 3) := by decide +kernel
theorem dX8_chain_58 : decode cX8_chain 58 = .ok (.goto 19, 3) := by decide +kernel
theorem dX8_chain_61 : decode cX8_chain 61 = .ok (.iload_n 3, 1) := by decide +kernel
theorem dX8_chain_62 : decode cX8_chain 62 = .ok (.iconst 2, 1) := by decide +kernel
theorem dX8_chain_63 : decode cX8_chain 63 = .ok (.if_icmp .ne 10, 3) := by decide +kernel
theorem dX8_chain_66 : decode cX8_chain 66 = .ok (.aload_n 0, 1) := by decide +kernel
theorem dX8_chain_67 : decode cX8_chain 67 = .ok (.getfield 137, 3) := by decide +kernel
theorem dX8_chain_70 : decode cX8_chain 70 = .ok (.goto 7, 3) := by decide +kernel
theorem dX8_chain_73 : decode cX8_chain 73 = .ok (.aload_n 0, 1) := by decide +kernel
theorem dX8_chain_74 : decode cX8_chain 74 = .ok (.getfield 140, 3) := by decide +kernel
theorem dX8_chain_77 : decode cX8_chain 77 = .ok (.ireturn, 1) := by decide +kernel
theorem dX8_through_0 : decode cX8_through 0 = .ok (.iload_n 1, 1) := by decide +kernel
theorem dX8_through_1 : decode cX8_through 1 = .ok (.invokestatic 102, 3) := by decide +kernel
theorem dX8_through_4 : decode cX8_through 4 = .ok (.ifCond .eq 11, 3) := by decide +kernel
theorem dX8_through_7 : decode cX8_through 7 = .ok (.aload_n 0, 1) := by decide +kernel
theorem dX8_through_8 : decode cX8_through 8 = .ok (.iload_n 2, 1) := by decide +kernel
theorem dX8_through_9 : decode cX8_through 9 = .ok (.invokevirtual 116, 3) := by decide +kernel
theorem dX8_through_12 : decode cX8_through 12 = .ok (.ifCond .ne 9, 3) := by decide +kernel
theorem dX8_through_15 : decode cX8_through 15 = .ok (.aload_n 0, 1) := by decide +kernel
theorem dX8_through_16 : decode cX8_through 16 = .ok (.iconst 0, 1) := by decide +kernel
theorem dX8_through_17 : decode cX8_through 17 = .ok (.invokevirtual 106, 3) := by decide +kernel
theorem dX8_through_20 : decode cX8_through 20 = .ok (.ireturn, 1) := by decide +kernel
theorem dX8_through_21 : decode cX8_through 21 = .ok (.aload_n 0, 1) := by decide +kernel
theorem dX8_through_22 : decode cX8_through 22 = .ok (.iload_n 1, 1) := by decide +kernel
theorem dX8_through_23 : decode cX8_through 23 = .ok (.invokevirtual 143, 3) := by decide +kernel
theorem dX8_through_26 : decode cX8_through 26 = .ok (.iconst 1, 1) := by decide +kernel
theorem dX8_through_27 : decode cX8_through 27 = .ok (.istore_n 3, 1) := by decide +kernel
theorem dX8_through_28 : decode cX8_through 28 = .ok (.iload_n 3, 1) := by decide +kernel
theorem dX8_through_29 : decode cX8_through 29 = .ok (.bipush 16, 2) := by decide +kernel
theorem dX8_through_31 : decode cX8_through 31 = .ok (.if_icmp .gt 28, 3) := by decide +kernel
theorem dX8_through_34 : decode cX8_through 34 = .ok (.aload_n 0, 1) := by decide +kernel
theorem dX8_through_35 : decode cX8_through 35 = .ok (.invokevirtual 147, 3) := by decide +kernel
theorem dX8_through_38 : decode cX8_through 38 = .ok (.aload_n 0, 1) := by decide +kernel
theorem dX8_through_39 : decode cX8_through 39 = .ok (.getfield 130, 3) := by decide +kernel
theorem dX8_through_42 : decode cX8_through 42 = .ok (.aload_n 0, 1) := by decide +kernel
theorem dX8_through_43 : decode cX8_through 43 = .ok (.iload_n 2, 1) := by decide +kernel
theorem dX8_through_44 : decode cX8_through 44 = .ok (.iconst 1, 1) := by decide +kernel
theorem dX8_through_45 : decode cX8_through 45 = .ok (.invokevirtual 62, 3) := by decide +kernel
theorem dX8_through_48 : decode cX8_through 48 = .ok (.if_icmp .ne 5, 3) := by decide +kernel
theorem dX8_through_51 : decode cX8_through 51 = .ok (.iload_n 3, 1) := by decide +kernel
theorem dX8_through_52 : decode cX8_through 52 = .ok (.ireturn, 1) := by decide +kernel
theorem dX8_through_53 : decode cX8_through 53 = .ok (.iinc 3 1, 3) := by decide +kernel
theorem dX8_through_56 : decode cX8_through 56 = .ok (.goto (-28), 3) := by decide +kernel
theorem dX8_through_59 : decode cX8_through 59 = .ok (.aload_n 0, 1) := by decide +kernel
theorem dX8_through_60 : decode cX8_through 60 = .ok (.iconst 3, 1) := by decide +kernel
theorem dX8_through_61 : decode cX8_through 61 = .ok (.invokevirtual 106, 3) := by decide +kernel
theorem dX8_through_64 : decode cX8_through 64 = .ok (.ireturn, 1) := by decide +kernel
theorem dX8_upright_0 : decode cX8_upright 0 = .ok (.iload_n 1, 1) := by decide +kernel
theorem dX8_upright_1 : decode cX8_upright 1 = .ok (.invokestatic 102, 3) := by decide +kernel
theorem dX8_upright_4 : decode cX8_upright 4 = .ok (.ifCond .ne 9, 3) := by decide +kernel
theorem dX8_upright_7 : decode cX8_upright 7 = .ok (.aload_n 0, 1) := by decide +kernel
theorem dX8_upright_8 : decode cX8_upright 8 = .ok (.iconst 0, 1) := by decide +kernel
theorem dX8_upright_9 : decode cX8_upright 9 = .ok (.invokevirtual 106, 3) := by decide +kernel
theorem dX8_upright_12 : decode cX8_upright 12 = .ok (.ireturn, 1) := by decide +kernel
theorem dX8_upright_13 : decode cX8_upright 13 = .ok (.aload_n 0, 1) := by decide +kernel
theorem dX8_upright_14 : decode cX8_upright 14 = .ok (.iload_n 1, 1) := by decide +kernel
theorem dX8_upright_15 : decode cX8_upright 15 = .ok (.invokevirtual 143, 3) := by decide +kernel
theorem dX8_upright_18 : decode cX8_upright 18 = .ok (.iconst 1, 1) := by decide +kernel
theorem dX8_upright_19 : decode cX8_upright 19 = .ok (.istore_n 2, 1) := by decide +kernel
theorem dX8_upright_20 : decode cX8_upright 20 = .ok (.iload_n 2, 1) := by decide +kernel
theorem dX8_upright_21 : decode cX8_upright 21 = .ok (.bipush 16, 2) := by decide +kernel
theorem dX8_upright_23 : decode cX8_upright 23 = .ok (.if_icmp .gt 29, 3) := by decide +kernel
theorem dX8_upright_26 : decode cX8_upright 26 = .ok (.aload_n 0, 1) := by decide +kernel
theorem dX8_upright_27 : decode cX8_upright 27 = .ok (.invokevirtual 147, 3) := by decide +kernel
theorem dX8_upright_30 : decode cX8_upright 30 = .ok (.aload_n 0, 1) := by decide +kernel
theorem dX8_upright_31 : decode cX8_upright 31 = .ok (.getfield 137, 3) := by decide +kernel
theorem dX8_upright_34 : decode cX8_upright 34 = .ok (.ifCond .ne 12, 3) := by decide +kernel
theorem dX8_upright_37 : decode cX8_upright 37 = .ok (.aload_n 0, 1) := by decide +kernel
theorem dX8_upright_38 : decode cX8_upright 38 = .ok (.getfield 140, 3) := by decide +kernel
theorem dX8_upright_41 : decode cX8_upright 41 = .ok (.ifCond .ne 5, 3) := by decide +kernel
theorem dX8_upright_44 : decode cX8_upright 44 = .ok (.iload_n 2, 1) := by decide +kernel
theorem dX8_upright_45 : decode cX8_upright 45 = .ok (.ireturn, 1) := by decide +kernel
theorem dX8_upright_46 : decode cX8_upright 46 = .ok (.iinc 2 1, 3) := by decide +kernel
theorem dX8_upright_49 : decode cX8_upright 49 = .ok (.goto (-29), 3) := by decide +kernel
theorem dX8_upright_52 : decode cX8_upright 52 = .ok (.aload_n 0, 1) := by decide +kernel
theorem dX8_upright_53 : decode cX8_upright 53 = .ok (.iconst 3, 1) := by decide +kernel
theorem dX8_upright_54 : decode cX8_upright 54 = .ok (.invokevirtual 106, 3) := by decide +kernel
theorem dX8_upright_57 : decode cX8_upright 57 = .ok (.ireturn, 1) := by decide +kernel
theorem dX8_large_0 : decode cX8_large 0 = .ok (.iload_n 1, 1) := by decide +kernel
theorem dX8_large_1 : decode cX8_large 1 = .ok (.invokestatic 102, 3) := by decide +kernel
theorem dX8_large_4 : decode cX8_large 4 = .ok (.ifCond .eq 21, 3) := by decide +kernel
theorem dX8_large_7 : decode cX8_large 7 = .ok (.iload_n 2, 1) := by decide +kernel
theorem dX8_large_8 : decode cX8_large 8 = .ok (.iconst 0, 1) := by decide +kernel
theorem dX8_large_9 : decode cX8_large 9 = .ok (.bipush 16, 2) := by decide +kernel
theorem dX8_large_11 : decode cX8_large 11 = .ok (.invokestatic 58, 3) := by decide +kernel
theorem dX8_large_14 : decode cX8_large 14 = .ok (.ifCond .eq 11, 3) := by decide +kernel
theorem dX8_large_17 : decode cX8_large 17 = .ok (.aload_n 0, 1) := by decide +kernel
theorem dX8_large_18 : decode cX8_large 18 = .ok (.iload_n 3, 1) := by decide +kernel
theorem dX8_large_19 : decode cX8_large 19 = .ok (.invokevirtual 116, 3) := by decide +kernel
theorem dX8_large_22 : decode cX8_large 22 = .ok (.ifCond .ne 9, 3) := by decide +kernel
theorem dX8_large_25 : decode cX8_large 25 = .ok (.aload_n 0, 1) := by decide +kernel
theorem dX8_large_26 : decode cX8_large 26 = .ok (.iconst 0, 1) := by decide +kernel
theorem dX8_large_27 : decode cX8_large 27 = .ok (.invokevirtual 106, 3) := by decide +kernel
theorem dX8_large_30 : decode cX8_large 30 = .ok (.ireturn, 1) := by decide +kernel
theorem dX8_large_31 : decode cX8_large 31 = .ok (.aload_n 0, 1) := by decide +kernel
theorem dX8_large_32 : decode cX8_large 32 = .ok (.iload_n 1, 1) := by decide +kernel
theorem dX8_large_33 : decode cX8_large 33 = .ok (.iload_n 2, 1) := by decide +kernel
theorem dX8_large_34 : decode cX8_large 34 = .ok (.invokevirtual 150, 3) := by decide +kernel
theorem dX8_large_37 : decode cX8_large 37 = .ok (.aload_n 0, 1) := by decide +kernel
theorem dX8_large_38 : decode cX8_large 38 = .ok (.getfield 130, 3) := by decide +kernel
theorem dX8_large_41 : decode cX8_large 41 = .ok (.aload_n 0, 1) := by decide +kernel
theorem dX8_large_42 : decode cX8_large 42 = .ok (.iload_n 3, 1) := by decide +kernel
theorem dX8_large_43 : decode cX8_large 43 = .ok (.iconst 1, 1) := by decide +kernel
theorem dX8_large_44 : decode cX8_large 44 = .ok (.invokevirtual 62, 3) := by decide +kernel
theorem dX8_large_47 : decode cX8_large 47 = .ok (.if_icmp .ne 20, 3) := by decide +kernel
theorem dX8_large_50 : decode cX8_large 50 = .ok (.aload_n 0, 1) := by decide +kernel
theorem dX8_large_51 : decode cX8_large 51 = .ok (.iload_n 3, 1) := by decide +kernel
theorem dX8_large_52 : decode cX8_large 52 = .ok (.iconst 2, 1) := by decide +kernel
theorem dX8_large_53 : decode cX8_large 53 = .ok (.invokevirtual 62, 3) := by decide +kernel
theorem dX8_large_56 : decode cX8_large 56 = .ok (.aload_n 0, 1) := by decide +kernel
theorem dX8_large_57 : decode cX8_large 57 = .ok (.getfield 134, 3) := by decide +kernel
theorem dX8_large_60 : decode cX8_large 60 = .ok (.imul, 1) := by decide +kernel
theorem dX8_large_61 : decode cX8_large 61 = .ok (.bipush 81, 2) := by decide +kernel
theorem dX8_large_63 : decode cX8_large 63 = .ok (.idiv, 1) := by decide +kernel
theorem dX8_large_64 : decode cX8_large 64 = .ok (.goto 8, 3) := by decide +kernel
theorem dX8_large_67 : decode cX8_large 67 = .ok (.aload_n 0, 1) := by decide +kernel
theorem dX8_large_68 : decode cX8_large 68 = .ok (.iconst 4, 1) := by decide +kernel
theorem dX8_large_69 : decode cX8_large 69 = .ok (.invokevirtual 106, 3) := by decide +kernel
theorem dX8_large_72 : decode cX8_large 72 = .ok (.ireturn, 1) := by decide +kernel
theorem dX8_isRound_0 : decode cX8_isRound 0 = .ok (.aload_n 0, 1) := by decide +kernel
theorem dX8_isRound_1 : decode cX8_isRound 1 = .ok (.iload_n 1, 1) := by decide +kernel
theorem dX8_isRound_2 : decode cX8_isRound 2 = .ok (.iconst 0, 1) := by decide +kernel
theorem dX8_isRound_3 : decode cX8_isRound 3 = .ok (.invokevirtual 66, 3) := by decide +kernel
theorem dX8_isRound_6 : decode cX8_isRound 6 = .ok (.istore_n 2, 1) := by decide +kernel
theorem dX8_isRound_7 : decode cX8_isRound 7 = .ok (.iconst 1, 1) := by decide +kernel
theorem dX8_isRound_8 : decode cX8_isRound 8 = .ok (.istore_n 3, 1) := by decide +kernel
theorem dX8_isRound_9 : decode cX8_isRound 9 = .ok (.iload_n 3, 1) := by decide +kernel
theorem dX8_isRound_10 : decode cX8_isRound 10 = .ok (.bipush 16, 2) := by decide +kernel
theorem dX8_isRound_12 : decode cX8_isRound 12 = .ok (.if_icmp .ge 21, 3) := by decide +kernel
theorem dX8_isRound_15 : decode cX8_isRound 15 = .ok (.iload_n 2, 1) := by decide +kernel
theorem dX8_isRound_16 : decode cX8_isRound 16 = .ok (.iload_n 1, 1) := by decide +kernel
theorem dX8_isRound_17 : decode cX8_isRound 17 = .ok (.if_icmp .eq 16, 3) := by decide +kernel
theorem dX8_isRound_20 : decode cX8_isRound 20 = .ok (.aload_n 0, 1) := by decide +kernel
theorem dX8_isRound_21 : decode cX8_isRound 21 = .ok (.iload_n 2, 1) := by decide +kernel
theorem dX8_isRound_22 : decode cX8_isRound 22 = .ok (.iconst 0, 1) := by decide +kernel
theorem dX8_isRound_23 : decode cX8_isRound 23 = .ok (.invokevirtual 66, 3) := by decide +kernel
theorem dX8_isRound_26 : decode cX8_isRound 26 = .ok (.istore_n 2, 1) := by decide +kernel
theorem dX8_isRound_27 : decode cX8_isRound 27 = .ok (.iinc 3 1, 3) := by decide +kernel
theorem dX8_isRound_30 : decode cX8_isRound 30 = .ok (.goto (-21), 3) := by decide +kernel
theorem dX8_isRound_33 : decode cX8_isRound 33 = .ok (.iload_n 2, 1) := by decide +kernel
theorem dX8_isRound_34 : decode cX8_isRound 34 = .ok (.iload_n 1, 1) := by decide +kernel
theorem dX8_isRound_35 : decode cX8_isRound 35 = .ok (.if_icmp .ne 7, 3) := by decide +kernel
theorem dX8_isRound_38 : decode cX8_isRound 38 = .ok (.iconst 1, 1) := by decide +kernel
theorem dX8_isRound_39 : decode cX8_isRound 39 = .ok (.goto 4, 3) := by decide +kernel
theorem dX8_isRound_42 : decode cX8_isRound 42 = .ok (.iconst 0, 1) := by decide +kernel
theorem dX8_isRound_43 : decode cX8_isRound 43 = .ok (.ireturn, 1) := by decide +kernel
theorem dX8_aheadOf_0 : decode cX8_aheadOf 0 = .ok (.iconst 0, 1) := by decide +kernel
theorem dX8_aheadOf_1 : decode cX8_aheadOf 1 = .ok (.istore_n 2, 1) := by decide +kernel
theorem dX8_aheadOf_2 : decode cX8_aheadOf 2 = .ok (.iload_n 1, 1) := by decide +kernel
theorem dX8_aheadOf_3 : decode cX8_aheadOf 3 = .ok (.istore_n 3, 1) := by decide +kernel
theorem dX8_aheadOf_4 : decode cX8_aheadOf 4 = .ok (.aload_n 0, 1) := by decide +kernel
theorem dX8_aheadOf_5 : decode cX8_aheadOf 5 = .ok (.iload_n 3, 1) := by decide +kernel
theorem dX8_aheadOf_6 : decode cX8_aheadOf 6 = .ok (.invokevirtual 153, 3) := by decide +kernel
theorem dX8_aheadOf_9 : decode cX8_aheadOf 9 = .ok (.ifCond .ne 16, 3) := by decide +kernel
theorem dX8_aheadOf_12 : decode cX8_aheadOf 12 = .ok (.aload_n 0, 1) := by decide +kernel
theorem dX8_aheadOf_13 : decode cX8_aheadOf 13 = .ok (.iload_n 3, 1) := by decide +kernel
theorem dX8_aheadOf_14 : decode cX8_aheadOf 14 = .ok (.iconst 0, 1) := by decide +kernel
theorem dX8_aheadOf_15 : decode cX8_aheadOf 15 = .ok (.invokevirtual 66, 3) := by decide +kernel
theorem dX8_aheadOf_18 : decode cX8_aheadOf 18 = .ok (.istore_n 3, 1) := by decide +kernel
theorem dX8_aheadOf_19 : decode cX8_aheadOf 19 = .ok (.iinc 2 1, 3) := by decide +kernel
theorem dX8_aheadOf_22 : decode cX8_aheadOf 22 = .ok (.goto (-18), 3) := by decide +kernel
theorem dX8_aheadOf_25 : decode cX8_aheadOf 25 = .ok (.iload_n 2, 1) := by decide +kernel
theorem dX8_aheadOf_26 : decode cX8_aheadOf 26 = .ok (.ireturn, 1) := by decide +kernel
theorem dX8_roundOf_0 : decode cX8_roundOf 0 = .ok (.iload_n 1, 1) := by decide +kernel
theorem dX8_roundOf_1 : decode cX8_roundOf 1 = .ok (.istore_n 2, 1) := by decide +kernel
theorem dX8_roundOf_2 : decode cX8_roundOf 2 = .ok (.iconst 0, 1) := by decide +kernel
theorem dX8_roundOf_3 : decode cX8_roundOf 3 = .ok (.istore_n 3, 1) := by decide +kernel
theorem dX8_roundOf_4 : decode cX8_roundOf 4 = .ok (.iload_n 3, 1) := by decide +kernel
theorem dX8_roundOf_5 : decode cX8_roundOf 5 = .ok (.bipush 16, 2) := by decide +kernel
theorem dX8_roundOf_7 : decode cX8_roundOf 7 = .ok (.if_icmp .ge 16, 3) := by decide +kernel
theorem dX8_roundOf_10 : decode cX8_roundOf 10 = .ok (.aload_n 0, 1) := by decide +kernel
theorem dX8_roundOf_11 : decode cX8_roundOf 11 = .ok (.iload_n 2, 1) := by decide +kernel
theorem dX8_roundOf_12 : decode cX8_roundOf 12 = .ok (.iconst 0, 1) := by decide +kernel
theorem dX8_roundOf_13 : decode cX8_roundOf 13 = .ok (.invokevirtual 66, 3) := by decide +kernel
theorem dX8_roundOf_16 : decode cX8_roundOf 16 = .ok (.istore_n 2, 1) := by decide +kernel
theorem dX8_roundOf_17 : decode cX8_roundOf 17 = .ok (.iinc 3 1, 3) := by decide +kernel
theorem dX8_roundOf_20 : decode cX8_roundOf 20 = .ok (.goto (-16), 3) := by decide +kernel
theorem dX8_roundOf_23 : decode cX8_roundOf 23 = .ok (.iconst 0, 1) := by decide +kernel
theorem dX8_roundOf_24 : decode cX8_roundOf 24 = .ok (.istore_n 3, 1) := by decide +kernel
theorem dX8_roundOf_25 : decode cX8_roundOf 25 = .ok (.iconst 0, 1) := by decide +kernel
theorem dX8_roundOf_26 : decode cX8_roundOf 26 = .ok (.istore 4, 2) := by decide +kernel
theorem dX8_roundOf_28 : decode cX8_roundOf 28 = .ok (.iload 4, 2) := by decide +kernel
theorem dX8_roundOf_30 : decode cX8_roundOf 30 = .ok (.bipush 16, 2) := by decide +kernel
theorem dX8_roundOf_32 : decode cX8_roundOf 32 = .ok (.if_icmp .ge 22, 3) := by decide +kernel
theorem dX8_roundOf_35 : decode cX8_roundOf 35 = .ok (.iload_n 3, 1) := by decide +kernel
theorem dX8_roundOf_36 : decode cX8_roundOf 36 = .ok (.iconst 1, 1) := by decide +kernel
theorem dX8_roundOf_37 : decode cX8_roundOf 37 = .ok (.iload_n 2, 1) := by decide +kernel
theorem dX8_roundOf_38 : decode cX8_roundOf 38 = .ok (.ishl, 1) := by decide +kernel
theorem dX8_roundOf_39 : decode cX8_roundOf 39 = .ok (.ior, 1) := by decide +kernel
theorem dX8_roundOf_40 : decode cX8_roundOf 40 = .ok (.istore_n 3, 1) := by decide +kernel
theorem dX8_roundOf_41 : decode cX8_roundOf 41 = .ok (.aload_n 0, 1) := by decide +kernel
theorem dX8_roundOf_42 : decode cX8_roundOf 42 = .ok (.iload_n 2, 1) := by decide +kernel
theorem dX8_roundOf_43 : decode cX8_roundOf 43 = .ok (.iconst 0, 1) := by decide +kernel
theorem dX8_roundOf_44 : decode cX8_roundOf 44 = .ok (.invokevirtual 66, 3) := by decide +kernel
theorem dX8_roundOf_47 : decode cX8_roundOf 47 = .ok (.istore_n 2, 1) := by decide +kernel
theorem dX8_roundOf_48 : decode cX8_roundOf 48 = .ok (.iinc 4 1, 3) := by decide +kernel
theorem dX8_roundOf_51 : decode cX8_roundOf 51 = .ok (.goto (-23), 3) := by decide +kernel
theorem dX8_roundOf_54 : decode cX8_roundOf 54 = .ok (.iload_n 3, 1) := by decide +kernel
theorem dX8_roundOf_55 : decode cX8_roundOf 55 = .ok (.ireturn, 1) := by decide +kernel
theorem dX8_round_0 : decode cX8_round 0 = .ok (.iload_n 1, 1) := by decide +kernel
theorem dX8_round_1 : decode cX8_round 1 = .ok (.invokestatic 102, 3) := by decide +kernel
theorem dX8_round_4 : decode cX8_round 4 = .ok (.ifCond .eq 14, 3) := by decide +kernel
theorem dX8_round_7 : decode cX8_round 7 = .ok (.aload_n 0, 1) := by decide +kernel
theorem dX8_round_8 : decode cX8_round 8 = .ok (.iload_n 1, 1) := by decide +kernel
theorem dX8_round_9 : decode cX8_round 9 = .ok (.invokevirtual 156, 3) := by decide +kernel
theorem dX8_round_12 : decode cX8_round 12 = .ok (.invokestatic 159, 3) := by decide +kernel
theorem dX8_round_15 : decode cX8_round 15 = .ok (.goto 8, 3) := by decide +kernel
theorem dX8_round_18 : decode cX8_round 18 = .ok (.aload_n 0, 1) := by decide +kernel
theorem dX8_round_19 : decode cX8_round 19 = .ok (.iconst 0, 1) := by decide +kernel
theorem dX8_round_20 : decode cX8_round 20 = .ok (.invokevirtual 106, 3) := by decide +kernel
theorem dX8_round_23 : decode cX8_round 23 = .ok (.ireturn, 1) := by decide +kernel
theorem dX8_rounds_0 : decode cX8_rounds 0 = .ok (.iconst 0, 1) := by decide +kernel
theorem dX8_rounds_1 : decode cX8_rounds 1 = .ok (.istore_n 1, 1) := by decide +kernel
theorem dX8_rounds_2 : decode cX8_rounds 2 = .ok (.iconst 0, 1) := by decide +kernel
theorem dX8_rounds_3 : decode cX8_rounds 3 = .ok (.istore_n 2, 1) := by decide +kernel
theorem dX8_rounds_4 : decode cX8_rounds 4 = .ok (.iload_n 2, 1) := by decide +kernel
theorem dX8_rounds_5 : decode cX8_rounds 5 = .ok (.bipush 16, 2) := by decide +kernel
theorem dX8_rounds_7 : decode cX8_rounds 7 = .ok (.if_icmp .ge 41, 3) := by decide +kernel
theorem dX8_rounds_10 : decode cX8_rounds 10 = .ok (.aload_n 0, 1) := by decide +kernel
theorem dX8_rounds_11 : decode cX8_rounds 11 = .ok (.iload_n 2, 1) := by decide +kernel
theorem dX8_rounds_12 : decode cX8_rounds 12 = .ok (.invokevirtual 156, 3) := by decide +kernel
theorem dX8_rounds_15 : decode cX8_rounds 15 = .ok (.iconst 1, 1) := by decide +kernel
theorem dX8_rounds_16 : decode cX8_rounds 16 = .ok (.iload_n 2, 1) := by decide +kernel
theorem dX8_rounds_17 : decode cX8_rounds 17 = .ok (.ishl, 1) := by decide +kernel
theorem dX8_rounds_18 : decode cX8_rounds 18 = .ok (.iconst 1, 1) := by decide +kernel
theorem dX8_rounds_19 : decode cX8_rounds 19 = .ok (.isub, 1) := by decide +kernel
theorem dX8_rounds_20 : decode cX8_rounds 20 = .ok (.iand, 1) := by decide +kernel
theorem dX8_rounds_21 : decode cX8_rounds 21 = .ok (.istore_n 3, 1) := by decide +kernel
theorem dX8_rounds_22 : decode cX8_rounds 22 = .ok (.iload_n 1, 1) := by decide +kernel
theorem dX8_rounds_23 : decode cX8_rounds 23 = .ok (.aload_n 0, 1) := by decide +kernel
theorem dX8_rounds_24 : decode cX8_rounds 24 = .ok (.iload_n 2, 1) := by decide +kernel
theorem dX8_rounds_25 : decode cX8_rounds 25 = .ok (.invokevirtual 153, 3) := by decide +kernel
theorem dX8_rounds_28 : decode cX8_rounds 28 = .ok (.ifCond .eq 11, 3) := by decide +kernel
theorem dX8_rounds_31 : decode cX8_rounds 31 = .ok (.iload_n 3, 1) := by decide +kernel
theorem dX8_rounds_32 : decode cX8_rounds 32 = .ok (.ifCond .ne 7, 3) := by decide +kernel
theorem dX8_rounds_35 : decode cX8_rounds 35 = .ok (.iconst 1, 1) := by decide +kernel
theorem dX8_rounds_36 : decode cX8_rounds 36 = .ok (.goto 4, 3) := by decide +kernel
theorem dX8_rounds_39 : decode cX8_rounds 39 = .ok (.iconst 0, 1) := by decide +kernel
theorem dX8_rounds_40 : decode cX8_rounds 40 = .ok (.iadd, 1) := by decide +kernel
theorem dX8_rounds_41 : decode cX8_rounds 41 = .ok (.istore_n 1, 1) := by decide +kernel
theorem dX8_rounds_42 : decode cX8_rounds 42 = .ok (.iinc 2 1, 3) := by decide +kernel
theorem dX8_rounds_45 : decode cX8_rounds 45 = .ok (.goto (-41), 3) := by decide +kernel
theorem dX8_rounds_48 : decode cX8_rounds 48 = .ok (.iload_n 1, 1) := by decide +kernel
theorem dX8_rounds_49 : decode cX8_rounds 49 = .ok (.ireturn, 1) := by decide +kernel
theorem dX8_before_0 : decode cX8_before 0 = .ok (.iload_n 1, 1) := by decide +kernel
theorem dX8_before_1 : decode cX8_before 1 = .ok (.invokestatic 102, 3) := by decide +kernel
theorem dX8_before_4 : decode cX8_before 4 = .ok (.ifCond .eq 11, 3) := by decide +kernel
theorem dX8_before_7 : decode cX8_before 7 = .ok (.aload_n 0, 1) := by decide +kernel
theorem dX8_before_8 : decode cX8_before 8 = .ok (.iload_n 1, 1) := by decide +kernel
theorem dX8_before_9 : decode cX8_before 9 = .ok (.invokevirtual 162, 3) := by decide +kernel
theorem dX8_before_12 : decode cX8_before 12 = .ok (.goto 8, 3) := by decide +kernel
theorem dX8_before_15 : decode cX8_before 15 = .ok (.aload_n 0, 1) := by decide +kernel
theorem dX8_before_16 : decode cX8_before 16 = .ok (.iconst 0, 1) := by decide +kernel
theorem dX8_before_17 : decode cX8_before 17 = .ok (.invokevirtual 106, 3) := by decide +kernel
theorem dX8_before_20 : decode cX8_before 20 = .ok (.ireturn, 1) := by decide +kernel
theorem dX8_shownBy_0 : decode cX8_shownBy 0 = .ok (.iload_n 1, 1) := by decide +kernel
theorem dX8_shownBy_1 : decode cX8_shownBy 1 = .ok (.invokestatic 102, 3) := by decide +kernel
theorem dX8_shownBy_4 : decode cX8_shownBy 4 = .ok (.ifCond .ne 9, 3) := by decide +kernel
theorem dX8_shownBy_7 : decode cX8_shownBy 7 = .ok (.aload_n 0, 1) := by decide +kernel
theorem dX8_shownBy_8 : decode cX8_shownBy 8 = .ok (.iconst 0, 1) := by decide +kernel
theorem dX8_shownBy_9 : decode cX8_shownBy 9 = .ok (.invokevirtual 106, 3) := by decide +kernel
theorem dX8_shownBy_12 : decode cX8_shownBy 12 = .ok (.ireturn, 1) := by decide +kernel
theorem dX8_shownBy_13 : decode cX8_shownBy 13 = .ok (.iconst 0, 1) := by decide +kernel
theorem dX8_shownBy_14 : decode cX8_shownBy 14 = .ok (.istore_n 2, 1) := by decide +kernel
theorem dX8_shownBy_15 : decode cX8_shownBy 15 = .ok (.iconst 0, 1) := by decide +kernel
theorem dX8_shownBy_16 : decode cX8_shownBy 16 = .ok (.istore_n 3, 1) := by decide +kernel
theorem dX8_shownBy_17 : decode cX8_shownBy 17 = .ok (.iload_n 3, 1) := by decide +kernel
theorem dX8_shownBy_18 : decode cX8_shownBy 18 = .ok (.bipush 16, 2) := by decide +kernel
theorem dX8_shownBy_20 : decode cX8_shownBy 20 = .ok (.if_icmp .ge 59, 3) := by decide +kernel
theorem dX8_shownBy_23 : decode cX8_shownBy 23 = .ok (.iload_n 3, 1) := by decide +kernel
theorem dX8_shownBy_24 : decode cX8_shownBy 24 = .ok (.istore 4, 2) := by decide +kernel
theorem dX8_shownBy_26 : decode cX8_shownBy 26 = .ok (.iconst 0, 1) := by decide +kernel
theorem dX8_shownBy_27 : decode cX8_shownBy 27 = .ok (.istore 5, 2) := by decide +kernel
theorem dX8_shownBy_29 : decode cX8_shownBy 29 = .ok (.iload 5, 2) := by decide +kernel
theorem dX8_shownBy_31 : decode cX8_shownBy 31 = .ok (.bipush 16, 2) := by decide +kernel
theorem dX8_shownBy_33 : decode cX8_shownBy 33 = .ok (.if_icmp .ge 24, 3) := by decide +kernel
theorem dX8_shownBy_36 : decode cX8_shownBy 36 = .ok (.iload 4, 2) := by decide +kernel
theorem dX8_shownBy_38 : decode cX8_shownBy 38 = .ok (.iload_n 1, 1) := by decide +kernel
theorem dX8_shownBy_39 : decode cX8_shownBy 39 = .ok (.if_icmp .eq 18, 3) := by decide +kernel
theorem dX8_shownBy_42 : decode cX8_shownBy 42 = .ok (.aload_n 0, 1) := by decide +kernel
theorem dX8_shownBy_43 : decode cX8_shownBy 43 = .ok (.iload 4, 2) := by decide +kernel
theorem dX8_shownBy_45 : decode cX8_shownBy 45 = .ok (.iconst 0, 1) := by decide +kernel
theorem dX8_shownBy_46 : decode cX8_shownBy 46 = .ok (.invokevirtual 66, 3) := by decide +kernel
theorem dX8_shownBy_49 : decode cX8_shownBy 49 = .ok (.istore 4, 2) := by decide +kernel
theorem dX8_shownBy_51 : decode cX8_shownBy 51 = .ok (.iinc 5 1, 3) := by decide +kernel
theorem dX8_shownBy_54 : decode cX8_shownBy 54 = .ok (.goto (-25), 3) := by decide +kernel
theorem dX8_shownBy_57 : decode cX8_shownBy 57 = .ok (.iload_n 2, 1) := by decide +kernel
theorem dX8_shownBy_58 : decode cX8_shownBy 58 = .ok (.iload 4, 2) := by decide +kernel
theorem dX8_shownBy_60 : decode cX8_shownBy 60 = .ok (.iload_n 1, 1) := by decide +kernel
theorem dX8_shownBy_61 : decode cX8_shownBy 61 = .ok (.if_icmp .ne 9, 3) := by decide +kernel
theorem dX8_shownBy_64 : decode cX8_shownBy 64 = .ok (.iconst 1, 1) := by decide +kernel
theorem dX8_shownBy_65 : decode cX8_shownBy 65 = .ok (.iload_n 3, 1) := by decide +kernel
theorem dX8_shownBy_66 : decode cX8_shownBy 66 = .ok (.ishl, 1) := by decide +kernel
theorem dX8_shownBy_67 : decode cX8_shownBy 67 = .ok (.goto 4, 3) := by decide +kernel
theorem dX8_shownBy_70 : decode cX8_shownBy 70 = .ok (.iconst 0, 1) := by decide +kernel
theorem dX8_shownBy_71 : decode cX8_shownBy 71 = .ok (.ior, 1) := by decide +kernel
theorem dX8_shownBy_72 : decode cX8_shownBy 72 = .ok (.istore_n 2, 1) := by decide +kernel
theorem dX8_shownBy_73 : decode cX8_shownBy 73 = .ok (.iinc 3 1, 3) := by decide +kernel
theorem dX8_shownBy_76 : decode cX8_shownBy 76 = .ok (.goto (-59), 3) := by decide +kernel
theorem dX8_shownBy_79 : decode cX8_shownBy 79 = .ok (.iload_n 2, 1) := by decide +kernel
theorem dX8_shownBy_80 : decode cX8_shownBy 80 = .ok (.ireturn, 1) := by decide +kernel
theorem dX8_ahead_0 : decode cX8_ahead 0 = .ok (.aload_n 0, 1) := by decide +kernel
theorem dX8_ahead_1 : decode cX8_ahead 1 = .ok (.iload_n 1, 1) := by decide +kernel
theorem dX8_ahead_2 : decode cX8_ahead 2 = .ok (.invokevirtual 116, 3) := by decide +kernel
theorem dX8_ahead_5 : decode cX8_ahead 5 = .ok (.ifCond .eq 13, 3) := by decide +kernel
theorem dX8_ahead_8 : decode cX8_ahead 8 = .ok (.iload_n 2, 1) := by decide +kernel
theorem dX8_ahead_9 : decode cX8_ahead 9 = .ok (.iconst 0, 1) := by decide +kernel
theorem dX8_ahead_10 : decode cX8_ahead 10 = .ok (.bipush 100, 2) := by decide +kernel
theorem dX8_ahead_12 : decode cX8_ahead 12 = .ok (.invokestatic 58, 3) := by decide +kernel
theorem dX8_ahead_15 : decode cX8_ahead 15 = .ok (.ifCond .ne 9, 3) := by decide +kernel
theorem dX8_ahead_18 : decode cX8_ahead 18 = .ok (.aload_n 0, 1) := by decide +kernel
theorem dX8_ahead_19 : decode cX8_ahead 19 = .ok (.iconst 0, 1) := by decide +kernel
theorem dX8_ahead_20 : decode cX8_ahead 20 = .ok (.invokevirtual 106, 3) := by decide +kernel
theorem dX8_ahead_23 : decode cX8_ahead 23 = .ok (.ireturn, 1) := by decide +kernel
theorem dX8_ahead_24 : decode cX8_ahead 24 = .ok (.aload_n 0, 1) := by decide +kernel
theorem dX8_ahead_25 : decode cX8_ahead 25 = .ok (.invokevirtual 165, 3) := by decide +kernel
theorem dX8_ahead_28 : decode cX8_ahead 28 = .ok (.iconst 0, 1) := by decide +kernel
theorem dX8_ahead_29 : decode cX8_ahead 29 = .ok (.istore_n 3, 1) := by decide +kernel
theorem dX8_ahead_30 : decode cX8_ahead 30 = .ok (.iload_n 3, 1) := by decide +kernel
theorem dX8_ahead_31 : decode cX8_ahead 31 = .ok (.iload_n 2, 1) := by decide +kernel
theorem dX8_ahead_32 : decode cX8_ahead 32 = .ok (.if_icmp .ge 13, 3) := by decide +kernel
theorem dX8_ahead_35 : decode cX8_ahead 35 = .ok (.aload_n 0, 1) := by decide +kernel
theorem dX8_ahead_36 : decode cX8_ahead 36 = .ok (.invokevirtual 119, 3) := by decide +kernel
theorem dX8_ahead_39 : decode cX8_ahead 39 = .ok (.iinc 3 1, 3) := by decide +kernel
theorem dX8_ahead_42 : decode cX8_ahead 42 = .ok (.goto (-12), 3) := by decide +kernel
theorem dX8_ahead_45 : decode cX8_ahead 45 = .ok (.aload_n 0, 1) := by decide +kernel
theorem dX8_ahead_46 : decode cX8_ahead 46 = .ok (.iload_n 1, 1) := by decide +kernel
theorem dX8_ahead_47 : decode cX8_ahead 47 = .ok (.iconst 1, 1) := by decide +kernel
theorem dX8_ahead_48 : decode cX8_ahead 48 = .ok (.invokevirtual 62, 3) := by decide +kernel
theorem dX8_ahead_51 : decode cX8_ahead 51 = .ok (.istore_n 3, 1) := by decide +kernel
theorem dX8_ahead_52 : decode cX8_ahead 52 = .ok (.aload_n 0, 1) := by decide +kernel
theorem dX8_ahead_53 : decode cX8_ahead 53 = .ok (.invokevirtual 168, 3) := by decide +kernel
theorem dX8_ahead_56 : decode cX8_ahead 56 = .ok (.iload_n 3, 1) := by decide +kernel
theorem dX8_ahead_57 : decode cX8_ahead 57 = .ok (.ireturn, 1) := by decide +kernel
theorem dX8_firstBy_0 : decode cX8_firstBy 0 = .ok (.aload_n 0, 1) := by decide +kernel
theorem dX8_firstBy_1 : decode cX8_firstBy 1 = .ok (.invokevirtual 165, 3) := by decide +kernel
theorem dX8_firstBy_4 : decode cX8_firstBy 4 = .ok (.iconst 0, 1) := by decide +kernel
theorem dX8_firstBy_5 : decode cX8_firstBy 5 = .ok (.istore 4, 2) := by decide +kernel
theorem dX8_firstBy_7 : decode cX8_firstBy 7 = .ok (.iconst 0, 1) := by decide +kernel
theorem dX8_firstBy_8 : decode cX8_firstBy 8 = .ok (.istore 5, 2) := by decide +kernel
theorem dX8_firstBy_10 : decode cX8_firstBy 10 = .ok (.iload 4, 2) := by decide +kernel
theorem dX8_firstBy_12 : decode cX8_firstBy 12 = .ok (.bipush 100, 2) := by decide +kernel
theorem dX8_firstBy_14 : decode cX8_firstBy 14 = .ok (.if_icmp .gt 71, 3) := by decide +kernel
theorem dX8_firstBy_17 : decode cX8_firstBy 17 = .ok (.iload 5, 2) := by decide +kernel
theorem dX8_firstBy_19 : decode cX8_firstBy 19 = .ok (.ifCond .ne 66, 3) := by decide +kernel
theorem dX8_firstBy_22 : decode cX8_firstBy 22 = .ok (.aload_n 0, 1) := by decide +kernel
theorem dX8_firstBy_23 : decode cX8_firstBy 23 = .ok (.iload_n 1, 1) := by decide +kernel
theorem dX8_firstBy_24 : decode cX8_firstBy 24 = .ok (.iconst 1, 1) := by decide +kernel
theorem dX8_firstBy_25 : decode cX8_firstBy 25 = .ok (.invokevirtual 62, 3) := by decide +kernel
theorem dX8_firstBy_28 : decode cX8_firstBy 28 = .ok (.istore 6, 2) := by decide +kernel
theorem dX8_firstBy_30 : decode cX8_firstBy 30 = .ok (.iload 6, 2) := by decide +kernel
theorem dX8_firstBy_32 : decode cX8_firstBy 32 = .ok (.iload_n 3, 1) := by decide +kernel
theorem dX8_firstBy_33 : decode cX8_firstBy 33 = .ok (.ifCond .ne 7, 3) := by decide +kernel
theorem dX8_firstBy_36 : decode cX8_firstBy 36 = .ok (.iload_n 2, 1) := by decide +kernel
theorem dX8_firstBy_37 : decode cX8_firstBy 37 = .ok (.goto 23, 3) := by decide +kernel
theorem dX8_firstBy_40 : decode cX8_firstBy 40 = .ok (.iload_n 3, 1) := by decide +kernel
theorem dX8_firstBy_41 : decode cX8_firstBy 41 = .ok (.iconst 1, 1) := by decide +kernel
theorem dX8_firstBy_42 : decode cX8_firstBy 42 = .ok (.if_icmp .ne 12, 3) := by decide +kernel
theorem dX8_firstBy_45 : decode cX8_firstBy 45 = .ok (.aload_n 0, 1) := by decide +kernel
theorem dX8_firstBy_46 : decode cX8_firstBy 46 = .ok (.iload_n 2, 1) := by decide +kernel
theorem dX8_firstBy_47 : decode cX8_firstBy 47 = .ok (.iconst 0, 1) := by decide +kernel
theorem dX8_firstBy_48 : decode cX8_firstBy 48 = .ok (.invokevirtual 66, 3) := by decide +kernel
theorem dX8_firstBy_51 : decode cX8_firstBy 51 = .ok (.goto 9, 3) := by decide +kernel
theorem dX8_firstBy_54 : decode cX8_firstBy 54 = .ok (.aload_n 0, 1) := by decide +kernel
theorem dX8_firstBy_55 : decode cX8_firstBy 55 = .ok (.iload_n 2, 1) := by decide +kernel
theorem dX8_firstBy_56 : decode cX8_firstBy 56 = .ok (.iconst 1, 1) := by decide +kernel
theorem dX8_firstBy_57 : decode cX8_firstBy 57 = .ok (.invokevirtual 62, 3) := by decide +kernel
theorem dX8_firstBy_60 : decode cX8_firstBy 60 = .ok (.if_icmp .ne 7, 3) := by decide +kernel
theorem dX8_firstBy_63 : decode cX8_firstBy 63 = .ok (.iconst 1, 1) := by decide +kernel
theorem dX8_firstBy_64 : decode cX8_firstBy 64 = .ok (.goto 4, 3) := by decide +kernel
theorem dX8_firstBy_67 : decode cX8_firstBy 67 = .ok (.iconst 0, 1) := by decide +kernel
theorem dX8_firstBy_68 : decode cX8_firstBy 68 = .ok (.istore 5, 2) := by decide +kernel
theorem dX8_firstBy_70 : decode cX8_firstBy 70 = .ok (.iload 5, 2) := by decide +kernel
theorem dX8_firstBy_72 : decode cX8_firstBy 72 = .ok (.ifCond .ne 10, 3) := by decide +kernel
theorem dX8_firstBy_75 : decode cX8_firstBy 75 = .ok (.aload_n 0, 1) := by decide +kernel
theorem dX8_firstBy_76 : decode cX8_firstBy 76 = .ok (.invokevirtual 119, 3) := by decide +kernel
theorem dX8_firstBy_79 : decode cX8_firstBy 79 = .ok (.iinc 4 1, 3) := by decide +kernel
theorem dX8_firstBy_82 : decode cX8_firstBy 82 = .ok (.goto (-72), 3) := by decide +kernel
theorem dX8_firstBy_85 : decode cX8_firstBy 85 = .ok (.aload_n 0, 1) := by decide +kernel
theorem dX8_firstBy_86 : decode cX8_firstBy 86 = .ok (.invokevirtual 168, 3) := by decide +kernel
theorem dX8_firstBy_89 : decode cX8_firstBy 89 = .ok (.iload 5, 2) := by decide +kernel
theorem dX8_firstBy_91 : decode cX8_firstBy 91 = .ok (.ifCond .eq 8, 3) := by decide +kernel
theorem dX8_firstBy_94 : decode cX8_firstBy 94 = .ok (.iload 4, 2) := by decide +kernel
theorem dX8_firstBy_96 : decode cX8_firstBy 96 = .ok (.goto 8, 3) := by decide +kernel
theorem dX8_firstBy_99 : decode cX8_firstBy 99 = .ok (.aload_n 0, 1) := by decide +kernel
theorem dX8_firstBy_100 : decode cX8_firstBy 100 = .ok (.iconst 3, 1) := by decide +kernel
theorem dX8_firstBy_101 : decode cX8_firstBy 101 = .ok (.invokevirtual 106, 3) := by decide +kernel
theorem dX8_firstBy_104 : decode cX8_firstBy 104 = .ok (.ireturn, 1) := by decide +kernel
theorem dX8_comes_0 : decode cX8_comes 0 = .ok (.aload_n 0, 1) := by decide +kernel
theorem dX8_comes_1 : decode cX8_comes 1 = .ok (.iload_n 1, 1) := by decide +kernel
theorem dX8_comes_2 : decode cX8_comes 2 = .ok (.invokevirtual 116, 3) := by decide +kernel
theorem dX8_comes_5 : decode cX8_comes 5 = .ok (.ifCond .eq 20, 3) := by decide +kernel
theorem dX8_comes_8 : decode cX8_comes 8 = .ok (.iload_n 2, 1) := by decide +kernel
theorem dX8_comes_9 : decode cX8_comes 9 = .ok (.invokestatic 102, 3) := by decide +kernel
theorem dX8_comes_12 : decode cX8_comes 12 = .ok (.ifCond .eq 13, 3) := by decide +kernel
theorem dX8_comes_15 : decode cX8_comes 15 = .ok (.aload_n 0, 1) := by decide +kernel
theorem dX8_comes_16 : decode cX8_comes 16 = .ok (.iload_n 1, 1) := by decide +kernel
theorem dX8_comes_17 : decode cX8_comes 17 = .ok (.iload_n 2, 1) := by decide +kernel
theorem dX8_comes_18 : decode cX8_comes 18 = .ok (.iconst 0, 1) := by decide +kernel
theorem dX8_comes_19 : decode cX8_comes 19 = .ok (.invokevirtual 171, 3) := by decide +kernel
theorem dX8_comes_22 : decode cX8_comes 22 = .ok (.goto 8, 3) := by decide +kernel
theorem dX8_comes_25 : decode cX8_comes 25 = .ok (.aload_n 0, 1) := by decide +kernel
theorem dX8_comes_26 : decode cX8_comes 26 = .ok (.iconst 0, 1) := by decide +kernel
theorem dX8_comes_27 : decode cX8_comes 27 = .ok (.invokevirtual 106, 3) := by decide +kernel
theorem dX8_comes_30 : decode cX8_comes 30 = .ok (.ireturn, 1) := by decide +kernel
theorem dX8_seen_0 : decode cX8_seen 0 = .ok (.aload_n 0, 1) := by decide +kernel
theorem dX8_seen_1 : decode cX8_seen 1 = .ok (.iload_n 1, 1) := by decide +kernel
theorem dX8_seen_2 : decode cX8_seen 2 = .ok (.invokevirtual 116, 3) := by decide +kernel
theorem dX8_seen_5 : decode cX8_seen 5 = .ok (.ifCond .eq 20, 3) := by decide +kernel
theorem dX8_seen_8 : decode cX8_seen 8 = .ok (.iload_n 2, 1) := by decide +kernel
theorem dX8_seen_9 : decode cX8_seen 9 = .ok (.invokestatic 102, 3) := by decide +kernel
theorem dX8_seen_12 : decode cX8_seen 12 = .ok (.ifCond .eq 13, 3) := by decide +kernel
theorem dX8_seen_15 : decode cX8_seen 15 = .ok (.aload_n 0, 1) := by decide +kernel
theorem dX8_seen_16 : decode cX8_seen 16 = .ok (.iload_n 1, 1) := by decide +kernel
theorem dX8_seen_17 : decode cX8_seen 17 = .ok (.iload_n 2, 1) := by decide +kernel
theorem dX8_seen_18 : decode cX8_seen 18 = .ok (.iconst 1, 1) := by decide +kernel
theorem dX8_seen_19 : decode cX8_seen 19 = .ok (.invokevirtual 171, 3) := by decide +kernel
theorem dX8_seen_22 : decode cX8_seen 22 = .ok (.goto 8, 3) := by decide +kernel
theorem dX8_seen_25 : decode cX8_seen 25 = .ok (.aload_n 0, 1) := by decide +kernel
theorem dX8_seen_26 : decode cX8_seen 26 = .ok (.iconst 0, 1) := by decide +kernel
theorem dX8_seen_27 : decode cX8_seen 27 = .ok (.invokevirtual 106, 3) := by decide +kernel
theorem dX8_seen_30 : decode cX8_seen 30 = .ok (.ireturn, 1) := by decide +kernel
theorem dX8_meet_0 : decode cX8_meet 0 = .ok (.aload_n 0, 1) := by decide +kernel
theorem dX8_meet_1 : decode cX8_meet 1 = .ok (.iload_n 1, 1) := by decide +kernel
theorem dX8_meet_2 : decode cX8_meet 2 = .ok (.invokevirtual 116, 3) := by decide +kernel
theorem dX8_meet_5 : decode cX8_meet 5 = .ok (.ifCond .eq 26, 3) := by decide +kernel
theorem dX8_meet_8 : decode cX8_meet 8 = .ok (.aload_n 0, 1) := by decide +kernel
theorem dX8_meet_9 : decode cX8_meet 9 = .ok (.iload_n 2, 1) := by decide +kernel
theorem dX8_meet_10 : decode cX8_meet 10 = .ok (.invokevirtual 116, 3) := by decide +kernel
theorem dX8_meet_13 : decode cX8_meet 13 = .ok (.ifCond .eq 18, 3) := by decide +kernel
theorem dX8_meet_16 : decode cX8_meet 16 = .ok (.iload_n 1, 1) := by decide +kernel
theorem dX8_meet_17 : decode cX8_meet 17 = .ok (.iload_n 2, 1) := by decide +kernel
theorem dX8_meet_18 : decode cX8_meet 18 = .ok (.if_icmp .eq 13, 3) := by decide +kernel
theorem dX8_meet_21 : decode cX8_meet 21 = .ok (.aload_n 0, 1) := by decide +kernel
theorem dX8_meet_22 : decode cX8_meet 22 = .ok (.iload_n 1, 1) := by decide +kernel
theorem dX8_meet_23 : decode cX8_meet 23 = .ok (.iload_n 2, 1) := by decide +kernel
theorem dX8_meet_24 : decode cX8_meet 24 = .ok (.iconst 2, 1) := by decide +kernel
theorem dX8_meet_25 : decode cX8_meet 25 = .ok (.invokevirtual 171, 3) := by decide +kernel
theorem dX8_meet_28 : decode cX8_meet 28 = .ok (.goto 8, 3) := by decide +kernel
theorem dX8_meet_31 : decode cX8_meet 31 = .ok (.aload_n 0, 1) := by decide +kernel
theorem dX8_meet_32 : decode cX8_meet 32 = .ok (.iconst 0, 1) := by decide +kernel
theorem dX8_meet_33 : decode cX8_meet 33 = .ok (.invokevirtual 106, 3) := by decide +kernel
theorem dX8_meet_36 : decode cX8_meet 36 = .ok (.ireturn, 1) := by decide +kernel
theorem dX8_mostOf_0 : decode cX8_mostOf 0 = .ok (.iconst 0, 1) := by decide +kernel
theorem dX8_mostOf_1 : decode cX8_mostOf 1 = .ok (.istore_n 1, 1) := by decide +kernel
theorem dX8_mostOf_2 : decode cX8_mostOf 2 = .ok (.iconst 1, 1) := by decide +kernel
theorem dX8_mostOf_3 : decode cX8_mostOf 3 = .ok (.istore_n 2, 1) := by decide +kernel
theorem dX8_mostOf_4 : decode cX8_mostOf 4 = .ok (.iload_n 2, 1) := by decide +kernel
theorem dX8_mostOf_5 : decode cX8_mostOf 5 = .ok (.bipush 16, 2) := by decide +kernel
theorem dX8_mostOf_7 : decode cX8_mostOf 7 = .ok (.if_icmp .ge 30, 3) := by decide +kernel
theorem dX8_mostOf_10 : decode cX8_mostOf 10 = .ok (.aload_n 0, 1) := by decide +kernel
theorem dX8_mostOf_11 : decode cX8_mostOf 11 = .ok (.getfield 22, 3) := by decide +kernel
theorem dX8_mostOf_14 : decode cX8_mostOf 14 = .ok (.iload_n 2, 1) := by decide +kernel
theorem dX8_mostOf_15 : decode cX8_mostOf 15 = .ok (.iaload, 1) := by decide +kernel
theorem dX8_mostOf_16 : decode cX8_mostOf 16 = .ok (.aload_n 0, 1) := by decide +kernel
theorem dX8_mostOf_17 : decode cX8_mostOf 17 = .ok (.getfield 22, 3) := by decide +kernel
theorem dX8_mostOf_20 : decode cX8_mostOf 20 = .ok (.iload_n 1, 1) := by decide +kernel
theorem dX8_mostOf_21 : decode cX8_mostOf 21 = .ok (.iaload, 1) := by decide +kernel
theorem dX8_mostOf_22 : decode cX8_mostOf 22 = .ok (.if_icmp .le 7, 3) := by decide +kernel
theorem dX8_mostOf_25 : decode cX8_mostOf 25 = .ok (.iload_n 2, 1) := by decide +kernel
theorem dX8_mostOf_26 : decode cX8_mostOf 26 = .ok (.goto 4, 3) := by decide +kernel
theorem dX8_mostOf_29 : decode cX8_mostOf 29 = .ok (.iload_n 1, 1) := by decide +kernel
theorem dX8_mostOf_30 : decode cX8_mostOf 30 = .ok (.istore_n 1, 1) := by decide +kernel
theorem dX8_mostOf_31 : decode cX8_mostOf 31 = .ok (.iinc 2 1, 3) := by decide +kernel
theorem dX8_mostOf_34 : decode cX8_mostOf 34 = .ok (.goto (-30), 3) := by decide +kernel
theorem dX8_mostOf_37 : decode cX8_mostOf 37 = .ok (.iload_n 1, 1) := by decide +kernel
theorem dX8_mostOf_38 : decode cX8_mostOf 38 = .ok (.ireturn, 1) := by decide +kernel
theorem dX8_countsNone_0 : decode cX8_countsNone 0 = .ok (.iconst 0, 1) := by decide +kernel
theorem dX8_countsNone_1 : decode cX8_countsNone 1 = .ok (.istore_n 1, 1) := by decide +kernel
theorem dX8_countsNone_2 : decode cX8_countsNone 2 = .ok (.iload_n 1, 1) := by decide +kernel
theorem dX8_countsNone_3 : decode cX8_countsNone 3 = .ok (.bipush 16, 2) := by decide +kernel
theorem dX8_countsNone_5 : decode cX8_countsNone 5 = .ok (.if_icmp .ge 16, 3) := by decide +kernel
theorem dX8_countsNone_8 : decode cX8_countsNone 8 = .ok (.aload_n 0, 1) := by decide +kernel
theorem dX8_countsNone_9 : decode cX8_countsNone 9 = .ok (.getfield 22, 3) := by decide +kernel
theorem dX8_countsNone_12 : decode cX8_countsNone 12 = .ok (.iload_n 1, 1) := by decide +kernel
theorem dX8_countsNone_13 : decode cX8_countsNone 13 = .ok (.iconst 0, 1) := by decide +kernel
theorem dX8_countsNone_14 : decode cX8_countsNone 14 = .ok (.iastore, 1) := by decide +kernel
theorem dX8_countsNone_15 : decode cX8_countsNone 15 = .ok (.iinc 1 1, 3) := by decide +kernel
theorem dX8_countsNone_18 : decode cX8_countsNone 18 = .ok (.goto (-16), 3) := by decide +kernel
theorem dX8_countsNone_21 : decode cX8_countsNone 21 = .ok (.return_, 1) := by decide +kernel
theorem dX8_cast_0 : decode cX8_cast 0 = .ok (.aload_n 0, 1) := by decide +kernel
theorem dX8_cast_1 : decode cX8_cast 1 = .ok (.iload_n 1, 1) := by decide +kernel
theorem dX8_cast_2 : decode cX8_cast 2 = .ok (.invokevirtual 116, 3) := by decide +kernel
theorem dX8_cast_5 : decode cX8_cast 5 = .ok (.ifCond .eq 13, 3) := by decide +kernel
theorem dX8_cast_8 : decode cX8_cast 8 = .ok (.iload_n 2, 1) := by decide +kernel
theorem dX8_cast_9 : decode cX8_cast 9 = .ok (.iconst 1, 1) := by decide +kernel
theorem dX8_cast_10 : decode cX8_cast 10 = .ok (.bipush 100, 2) := by decide +kernel
theorem dX8_cast_12 : decode cX8_cast 12 = .ok (.invokestatic 58, 3) := by decide +kernel
theorem dX8_cast_15 : decode cX8_cast 15 = .ok (.ifCond .ne 9, 3) := by decide +kernel
theorem dX8_cast_18 : decode cX8_cast 18 = .ok (.aload_n 0, 1) := by decide +kernel
theorem dX8_cast_19 : decode cX8_cast 19 = .ok (.iconst 0, 1) := by decide +kernel
theorem dX8_cast_20 : decode cX8_cast 20 = .ok (.invokevirtual 106, 3) := by decide +kernel
theorem dX8_cast_23 : decode cX8_cast 23 = .ok (.ireturn, 1) := by decide +kernel
theorem dX8_cast_24 : decode cX8_cast 24 = .ok (.aload_n 0, 1) := by decide +kernel
theorem dX8_cast_25 : decode cX8_cast 25 = .ok (.invokevirtual 165, 3) := by decide +kernel
theorem dX8_cast_28 : decode cX8_cast 28 = .ok (.aload_n 0, 1) := by decide +kernel
theorem dX8_cast_29 : decode cX8_cast 29 = .ok (.invokevirtual 175, 3) := by decide +kernel
theorem dX8_cast_32 : decode cX8_cast 32 = .ok (.iconst 0, 1) := by decide +kernel
theorem dX8_cast_33 : decode cX8_cast 33 = .ok (.istore_n 3, 1) := by decide +kernel
theorem dX8_cast_34 : decode cX8_cast 34 = .ok (.iload_n 3, 1) := by decide +kernel
theorem dX8_cast_35 : decode cX8_cast 35 = .ok (.iload_n 2, 1) := by decide +kernel
theorem dX8_cast_36 : decode cX8_cast 36 = .ok (.if_icmp .ge 28, 3) := by decide +kernel
theorem dX8_cast_39 : decode cX8_cast 39 = .ok (.aload_n 0, 1) := by decide +kernel
theorem dX8_cast_40 : decode cX8_cast 40 = .ok (.invokevirtual 119, 3) := by decide +kernel
theorem dX8_cast_43 : decode cX8_cast 43 = .ok (.aload_n 0, 1) := by decide +kernel
theorem dX8_cast_44 : decode cX8_cast 44 = .ok (.getfield 22, 3) := by decide +kernel
theorem dX8_cast_47 : decode cX8_cast 47 = .ok (.aload_n 0, 1) := by decide +kernel
theorem dX8_cast_48 : decode cX8_cast 48 = .ok (.iload_n 1, 1) := by decide +kernel
theorem dX8_cast_49 : decode cX8_cast 49 = .ok (.iconst 1, 1) := by decide +kernel
theorem dX8_cast_50 : decode cX8_cast 50 = .ok (.invokevirtual 62, 3) := by decide +kernel
theorem dX8_cast_53 : decode cX8_cast 53 = .ok (.dup2, 1) := by decide +kernel
theorem dX8_cast_54 : decode cX8_cast 54 = .ok (.iaload, 1) := by decide +kernel
theorem dX8_cast_55 : decode cX8_cast 55 = .ok (.iconst 1, 1) := by decide +kernel
theorem dX8_cast_56 : decode cX8_cast 56 = .ok (.iadd, 1) := by decide +kernel
theorem dX8_cast_57 : decode cX8_cast 57 = .ok (.iastore, 1) := by decide +kernel
theorem dX8_cast_58 : decode cX8_cast 58 = .ok (.iinc 3 1, 3) := by decide +kernel
theorem dX8_cast_61 : decode cX8_cast 61 = .ok (.goto (-27), 3) := by decide +kernel
theorem dX8_cast_64 : decode cX8_cast 64 = .ok (.aload_n 0, 1) := by decide +kernel
theorem dX8_cast_65 : decode cX8_cast 65 = .ok (.invokevirtual 168, 3) := by decide +kernel
theorem dX8_cast_68 : decode cX8_cast 68 = .ok (.aload_n 0, 1) := by decide +kernel
theorem dX8_cast_69 : decode cX8_cast 69 = .ok (.invokevirtual 178, 3) := by decide +kernel
theorem dX8_cast_72 : decode cX8_cast 72 = .ok (.ireturn, 1) := by decide +kernel
theorem dX8_kindFor_0 : decode cX8_kindFor 0 = .ok (.aload_n 0, 1) := by decide +kernel
theorem dX8_kindFor_1 : decode cX8_kindFor 1 = .ok (.iload_n 1, 1) := by decide +kernel
theorem dX8_kindFor_2 : decode cX8_kindFor 2 = .ok (.invokevirtual 116, 3) := by decide +kernel
theorem dX8_kindFor_5 : decode cX8_kindFor 5 = .ok (.ifCond .ne 9, 3) := by decide +kernel
theorem dX8_kindFor_8 : decode cX8_kindFor 8 = .ok (.aload_n 0, 1) := by decide +kernel
theorem dX8_kindFor_9 : decode cX8_kindFor 9 = .ok (.iconst 0, 1) := by decide +kernel
theorem dX8_kindFor_10 : decode cX8_kindFor 10 = .ok (.invokevirtual 106, 3) := by decide +kernel
theorem dX8_kindFor_13 : decode cX8_kindFor 13 = .ok (.ireturn, 1) := by decide +kernel
theorem dX8_kindFor_14 : decode cX8_kindFor 14 = .ok (.iconst 0, 1) := by decide +kernel
theorem dX8_kindFor_15 : decode cX8_kindFor 15 = .ok (.istore_n 2, 1) := by decide +kernel
theorem dX8_kindFor_16 : decode cX8_kindFor 16 = .ok (.iconst 0, 1) := by decide +kernel
theorem dX8_kindFor_17 : decode cX8_kindFor 17 = .ok (.istore_n 3, 1) := by decide +kernel
theorem dX8_kindFor_18 : decode cX8_kindFor 18 = .ok (.aload_n 0, 1) := by decide +kernel
theorem dX8_kindFor_19 : decode cX8_kindFor 19 = .ok (.invokevirtual 165, 3) := by decide +kernel
theorem dX8_kindFor_22 : decode cX8_kindFor 22 = .ok (.iconst 0, 1) := by decide +kernel
theorem dX8_kindFor_23 : decode cX8_kindFor 23 = .ok (.istore 4, 2) := by decide +kernel
theorem dX8_kindFor_25 : decode cX8_kindFor 25 = .ok (.iload 4, 2) := by decide +kernel
theorem dX8_kindFor_27 : decode cX8_kindFor 27 = .ok (.bipush 6, 2) := by decide +kernel
theorem dX8_kindFor_29 : decode cX8_kindFor 29 = .ok (.if_icmp .gt 99, 3) := by decide +kernel
theorem dX8_kindFor_32 : decode cX8_kindFor 32 = .ok (.aload_n 0, 1) := by decide +kernel
theorem dX8_kindFor_33 : decode cX8_kindFor 33 = .ok (.iload_n 1, 1) := by decide +kernel
theorem dX8_kindFor_34 : decode cX8_kindFor 34 = .ok (.iconst 0, 1) := by decide +kernel
theorem dX8_kindFor_35 : decode cX8_kindFor 35 = .ok (.iload 4, 2) := by decide +kernel
theorem dX8_kindFor_37 : decode cX8_kindFor 37 = .ok (.invokevirtual 95, 3) := by decide +kernel
theorem dX8_kindFor_40 : decode cX8_kindFor 40 = .ok (.iconst 1, 1) := by decide +kernel
theorem dX8_kindFor_41 : decode cX8_kindFor 41 = .ok (.aload_n 0, 1) := by decide +kernel
theorem dX8_kindFor_42 : decode cX8_kindFor 42 = .ok (.iload_n 1, 1) := by decide +kernel
theorem dX8_kindFor_43 : decode cX8_kindFor 43 = .ok (.iconst 1, 1) := by decide +kernel
theorem dX8_kindFor_44 : decode cX8_kindFor 44 = .ok (.invokevirtual 62, 3) := by decide +kernel
theorem dX8_kindFor_47 : decode cX8_kindFor 47 = .ok (.ishl, 1) := by decide +kernel
theorem dX8_kindFor_48 : decode cX8_kindFor 48 = .ok (.istore 5, 2) := by decide +kernel
theorem dX8_kindFor_50 : decode cX8_kindFor 50 = .ok (.iconst 0, 1) := by decide +kernel
theorem dX8_kindFor_51 : decode cX8_kindFor 51 = .ok (.istore 6, 2) := by decide +kernel
theorem dX8_kindFor_53 : decode cX8_kindFor 53 = .ok (.iload 6, 2) := by decide +kernel
theorem dX8_kindFor_55 : decode cX8_kindFor 55 = .ok (.bipush 60, 2) := by decide +kernel
theorem dX8_kindFor_57 : decode cX8_kindFor 57 = .ok (.if_icmp .ge 26, 3) := by decide +kernel
theorem dX8_kindFor_60 : decode cX8_kindFor 60 = .ok (.aload_n 0, 1) := by decide +kernel
theorem dX8_kindFor_61 : decode cX8_kindFor 61 = .ok (.invokevirtual 119, 3) := by decide +kernel
theorem dX8_kindFor_64 : decode cX8_kindFor 64 = .ok (.iload 5, 2) := by decide +kernel
theorem dX8_kindFor_66 : decode cX8_kindFor 66 = .ok (.iconst 1, 1) := by decide +kernel
theorem dX8_kindFor_67 : decode cX8_kindFor 67 = .ok (.aload_n 0, 1) := by decide +kernel
theorem dX8_kindFor_68 : decode cX8_kindFor 68 = .ok (.iload_n 1, 1) := by decide +kernel
theorem dX8_kindFor_69 : decode cX8_kindFor 69 = .ok (.iconst 1, 1) := by decide +kernel
theorem dX8_kindFor_70 : decode cX8_kindFor 70 = .ok (.invokevirtual 62, 3) := by decide +kernel
theorem dX8_kindFor_73 : decode cX8_kindFor 73 = .ok (.ishl, 1) := by decide +kernel
theorem dX8_kindFor_74 : decode cX8_kindFor 74 = .ok (.ior, 1) := by decide +kernel
theorem dX8_kindFor_75 : decode cX8_kindFor 75 = .ok (.istore 5, 2) := by decide +kernel
theorem dX8_kindFor_77 : decode cX8_kindFor 77 = .ok (.iinc 6 1, 3) := by decide +kernel
theorem dX8_kindFor_80 : decode cX8_kindFor 80 = .ok (.goto (-27), 3) := by decide +kernel
theorem dX8_kindFor_83 : decode cX8_kindFor 83 = .ok (.aload_n 0, 1) := by decide +kernel
theorem dX8_kindFor_84 : decode cX8_kindFor 84 = .ok (.invokevirtual 168, 3) := by decide +kernel
theorem dX8_kindFor_87 : decode cX8_kindFor 87 = .ok (.iload 5, 2) := by decide +kernel
theorem dX8_kindFor_89 : decode cX8_kindFor 89 = .ok (.invokestatic 159, 3) := by decide +kernel
theorem dX8_kindFor_92 : decode cX8_kindFor 92 = .ok (.iload_n 3, 1) := by decide +kernel
theorem dX8_kindFor_93 : decode cX8_kindFor 93 = .ok (.if_icmp .le 8, 3) := by decide +kernel
theorem dX8_kindFor_96 : decode cX8_kindFor 96 = .ok (.iload 4, 2) := by decide +kernel
theorem dX8_kindFor_98 : decode cX8_kindFor 98 = .ok (.goto 4, 3) := by decide +kernel
theorem dX8_kindFor_101 : decode cX8_kindFor 101 = .ok (.iload_n 2, 1) := by decide +kernel
theorem dX8_kindFor_102 : decode cX8_kindFor 102 = .ok (.istore_n 2, 1) := by decide +kernel
theorem dX8_kindFor_103 : decode cX8_kindFor 103 = .ok (.iload 5, 2) := by decide +kernel
theorem dX8_kindFor_105 : decode cX8_kindFor 105 = .ok (.invokestatic 159, 3) := by decide +kernel
theorem dX8_kindFor_108 : decode cX8_kindFor 108 = .ok (.iload_n 3, 1) := by decide +kernel
theorem dX8_kindFor_109 : decode cX8_kindFor 109 = .ok (.if_icmp .le 11, 3) := by decide +kernel
theorem dX8_kindFor_112 : decode cX8_kindFor 112 = .ok (.iload 5, 2) := by decide +kernel
theorem dX8_kindFor_114 : decode cX8_kindFor 114 = .ok (.invokestatic 159, 3) := by decide +kernel
theorem dX8_kindFor_117 : decode cX8_kindFor 117 = .ok (.goto 4, 3) := by decide +kernel
theorem dX8_kindFor_120 : decode cX8_kindFor 120 = .ok (.iload_n 3, 1) := by decide +kernel
theorem dX8_kindFor_121 : decode cX8_kindFor 121 = .ok (.istore_n 3, 1) := by decide +kernel
theorem dX8_kindFor_122 : decode cX8_kindFor 122 = .ok (.iinc 4 1, 3) := by decide +kernel
theorem dX8_kindFor_125 : decode cX8_kindFor 125 = .ok (.goto (-100), 3) := by decide +kernel
theorem dX8_kindFor_128 : decode cX8_kindFor 128 = .ok (.iload_n 2, 1) := by decide +kernel
theorem dX8_kindFor_129 : decode cX8_kindFor 129 = .ok (.ireturn, 1) := by decide +kernel
theorem dX8_isSheet_0 : decode cX8_isSheet 0 = .ok (.iload_n 0, 1) := by decide +kernel
theorem dX8_isSheet_1 : decode cX8_isSheet 1 = .ok (.iconst 0, 1) := by decide +kernel
theorem dX8_isSheet_2 : decode cX8_isSheet 2 = .ok (.iconst 3, 1) := by decide +kernel
theorem dX8_isSheet_3 : decode cX8_isSheet 3 = .ok (.invokestatic 58, 3) := by decide +kernel
theorem dX8_isSheet_6 : decode cX8_isSheet 6 = .ok (.ireturn, 1) := by decide +kernel
theorem dX8_wrongSheet_0 : decode cX8_wrongSheet 0 = .ok (.iload_n 1, 1) := by decide +kernel
theorem dX8_wrongSheet_1 : decode cX8_wrongSheet 1 = .ok (.invokestatic 181, 3) := by decide +kernel
theorem dX8_wrongSheet_4 : decode cX8_wrongSheet 4 = .ok (.ifCond .ne 7, 3) := by decide +kernel
theorem dX8_wrongSheet_7 : decode cX8_wrongSheet 7 = .ok (.iconst 0, 1) := by decide +kernel
theorem dX8_wrongSheet_8 : decode cX8_wrongSheet 8 = .ok (.goto 17, 3) := by decide +kernel
theorem dX8_wrongSheet_11 : decode cX8_wrongSheet 11 = .ok (.aload_n 0, 1) := by decide +kernel
theorem dX8_wrongSheet_12 : decode cX8_wrongSheet 12 = .ok (.getfield 41, 3) := by decide +kernel
theorem dX8_wrongSheet_15 : decode cX8_wrongSheet 15 = .ok (.iload_n 1, 1) := by decide +kernel
theorem dX8_wrongSheet_16 : decode cX8_wrongSheet 16 = .ok (.iaload, 1) := by decide +kernel
theorem dX8_wrongSheet_17 : decode cX8_wrongSheet 17 = .ok (.ifCond .ne 7, 3) := by decide +kernel
theorem dX8_wrongSheet_20 : decode cX8_wrongSheet 20 = .ok (.iconst 5, 1) := by decide +kernel
theorem dX8_wrongSheet_21 : decode cX8_wrongSheet 21 = .ok (.goto 4, 3) := by decide +kernel
theorem dX8_wrongSheet_24 : decode cX8_wrongSheet 24 = .ok (.iconst (-1), 1) := by decide +kernel
theorem dX8_wrongSheet_25 : decode cX8_wrongSheet 25 = .ok (.ireturn, 1) := by decide +kernel
theorem dX8_wrongSight_0 : decode cX8_wrongSight 0 = .ok (.aload_n 0, 1) := by decide +kernel
theorem dX8_wrongSight_1 : decode cX8_wrongSight 1 = .ok (.iload_n 1, 1) := by decide +kernel
theorem dX8_wrongSight_2 : decode cX8_wrongSight 2 = .ok (.invokevirtual 184, 3) := by decide +kernel
theorem dX8_wrongSight_5 : decode cX8_wrongSight 5 = .ok (.istore_n 3, 1) := by decide +kernel
theorem dX8_wrongSight_6 : decode cX8_wrongSight 6 = .ok (.iload_n 3, 1) := by decide +kernel
theorem dX8_wrongSight_7 : decode cX8_wrongSight 7 = .ok (.ifCond .lt 7, 3) := by decide +kernel
theorem dX8_wrongSight_10 : decode cX8_wrongSight 10 = .ok (.iload_n 3, 1) := by decide +kernel
theorem dX8_wrongSight_11 : decode cX8_wrongSight 11 = .ok (.goto 15, 3) := by decide +kernel
theorem dX8_wrongSight_14 : decode cX8_wrongSight 14 = .ok (.iload_n 2, 1) := by decide +kernel
theorem dX8_wrongSight_15 : decode cX8_wrongSight 15 = .ok (.invokestatic 102, 3) := by decide +kernel
theorem dX8_wrongSight_18 : decode cX8_wrongSight 18 = .ok (.ifCond .eq 7, 3) := by decide +kernel
theorem dX8_wrongSight_21 : decode cX8_wrongSight 21 = .ok (.iconst (-1), 1) := by decide +kernel
theorem dX8_wrongSight_22 : decode cX8_wrongSight 22 = .ok (.goto 4, 3) := by decide +kernel
theorem dX8_wrongSight_25 : decode cX8_wrongSight 25 = .ok (.iconst 0, 1) := by decide +kernel
theorem dX8_wrongSight_26 : decode cX8_wrongSight 26 = .ok (.ireturn, 1) := by decide +kernel
theorem dX8_told_0 : decode cX8_told 0 = .ok (.aload_n 0, 1) := by decide +kernel
theorem dX8_told_1 : decode cX8_told 1 = .ok (.getfield 47, 3) := by decide +kernel
theorem dX8_told_4 : decode cX8_told 4 = .ok (.bipush 40, 2) := by decide +kernel
theorem dX8_told_6 : decode cX8_told 6 = .ok (.iload_n 1, 1) := by decide +kernel
theorem dX8_told_7 : decode cX8_told 7 = .ok (.imul, 1) := by decide +kernel
theorem dX8_told_8 : decode cX8_told 8 = .ok (.iload_n 2, 1) := by decide +kernel
theorem dX8_told_9 : decode cX8_told 9 = .ok (.iadd, 1) := by decide +kernel
theorem dX8_told_10 : decode cX8_told 10 = .ok (.iaload, 1) := by decide +kernel
theorem dX8_told_11 : decode cX8_told 11 = .ok (.ireturn, 1) := by decide +kernel
theorem dX8_fitsAs_0 : decode cX8_fitsAs 0 = .ok (.aload_n 0, 1) := by decide +kernel
theorem dX8_fitsAs_1 : decode cX8_fitsAs 1 = .ok (.invokevirtual 165, 3) := by decide +kernel
theorem dX8_fitsAs_4 : decode cX8_fitsAs 4 = .ok (.aload_n 0, 1) := by decide +kernel
theorem dX8_fitsAs_5 : decode cX8_fitsAs 5 = .ok (.iload_n 2, 1) := by decide +kernel
theorem dX8_fitsAs_6 : decode cX8_fitsAs 6 = .ok (.iconst 0, 1) := by decide +kernel
theorem dX8_fitsAs_7 : decode cX8_fitsAs 7 = .ok (.iload_n 3, 1) := by decide +kernel
theorem dX8_fitsAs_8 : decode cX8_fitsAs 8 = .ok (.invokevirtual 53, 3) := by decide +kernel
theorem dX8_fitsAs_11 : decode cX8_fitsAs 11 = .ok (.iconst 1, 1) := by decide +kernel
theorem dX8_fitsAs_12 : decode cX8_fitsAs 12 = .ok (.istore 4, 2) := by decide +kernel
theorem dX8_fitsAs_14 : decode cX8_fitsAs 14 = .ok (.iconst 0, 1) := by decide +kernel
theorem dX8_fitsAs_15 : decode cX8_fitsAs 15 = .ok (.istore 5, 2) := by decide +kernel
theorem dX8_fitsAs_17 : decode cX8_fitsAs 17 = .ok (.iload 5, 2) := by decide +kernel
theorem dX8_fitsAs_19 : decode cX8_fitsAs 19 = .ok (.aload_n 0, 1) := by decide +kernel
theorem dX8_fitsAs_20 : decode cX8_fitsAs 20 = .ok (.getfield 44, 3) := by decide +kernel
theorem dX8_fitsAs_23 : decode cX8_fitsAs 23 = .ok (.iload_n 1, 1) := by decide +kernel
theorem dX8_fitsAs_24 : decode cX8_fitsAs 24 = .ok (.iaload, 1) := by decide +kernel
theorem dX8_fitsAs_25 : decode cX8_fitsAs 25 = .ok (.if_icmp .ge 51, 3) := by decide +kernel
theorem dX8_fitsAs_28 : decode cX8_fitsAs 28 = .ok (.iload 4, 2) := by decide +kernel
theorem dX8_fitsAs_30 : decode cX8_fitsAs 30 = .ok (.ifCond .eq 46, 3) := by decide +kernel
theorem dX8_fitsAs_33 : decode cX8_fitsAs 33 = .ok (.aload_n 0, 1) := by decide +kernel
theorem dX8_fitsAs_34 : decode cX8_fitsAs 34 = .ok (.iload_n 1, 1) := by decide +kernel
theorem dX8_fitsAs_35 : decode cX8_fitsAs 35 = .ok (.iload 5, 2) := by decide +kernel
theorem dX8_fitsAs_37 : decode cX8_fitsAs 37 = .ok (.invokevirtual 187, 3) := by decide +kernel
theorem dX8_fitsAs_40 : decode cX8_fitsAs 40 = .ok (.iconst (-1), 1) := by decide +kernel
theorem dX8_fitsAs_41 : decode cX8_fitsAs 41 = .ok (.if_icmp .eq 18, 3) := by decide +kernel
theorem dX8_fitsAs_44 : decode cX8_fitsAs 44 = .ok (.aload_n 0, 1) := by decide +kernel
theorem dX8_fitsAs_45 : decode cX8_fitsAs 45 = .ok (.iload_n 1, 1) := by decide +kernel
theorem dX8_fitsAs_46 : decode cX8_fitsAs 46 = .ok (.iload 5, 2) := by decide +kernel
theorem dX8_fitsAs_48 : decode cX8_fitsAs 48 = .ok (.invokevirtual 187, 3) := by decide +kernel
theorem dX8_fitsAs_51 : decode cX8_fitsAs 51 = .ok (.aload_n 0, 1) := by decide +kernel
theorem dX8_fitsAs_52 : decode cX8_fitsAs 52 = .ok (.iload_n 2, 1) := by decide +kernel
theorem dX8_fitsAs_53 : decode cX8_fitsAs 53 = .ok (.invokevirtual 73, 3) := by decide +kernel
theorem dX8_fitsAs_56 : decode cX8_fitsAs 56 = .ok (.if_icmp .ne 7, 3) := by decide +kernel
theorem dX8_fitsAs_59 : decode cX8_fitsAs 59 = .ok (.iconst 1, 1) := by decide +kernel
theorem dX8_fitsAs_60 : decode cX8_fitsAs 60 = .ok (.goto 4, 3) := by decide +kernel
theorem dX8_fitsAs_63 : decode cX8_fitsAs 63 = .ok (.iconst 0, 1) := by decide +kernel
theorem dX8_fitsAs_64 : decode cX8_fitsAs 64 = .ok (.istore 4, 2) := by decide +kernel
theorem dX8_fitsAs_66 : decode cX8_fitsAs 66 = .ok (.aload_n 0, 1) := by decide +kernel
theorem dX8_fitsAs_67 : decode cX8_fitsAs 67 = .ok (.invokevirtual 119, 3) := by decide +kernel
theorem dX8_fitsAs_70 : decode cX8_fitsAs 70 = .ok (.iinc 5 1, 3) := by decide +kernel
theorem dX8_fitsAs_73 : decode cX8_fitsAs 73 = .ok (.goto (-56), 3) := by decide +kernel
theorem dX8_fitsAs_76 : decode cX8_fitsAs 76 = .ok (.aload_n 0, 1) := by decide +kernel
theorem dX8_fitsAs_77 : decode cX8_fitsAs 77 = .ok (.invokevirtual 168, 3) := by decide +kernel
theorem dX8_fitsAs_80 : decode cX8_fitsAs 80 = .ok (.iload 4, 2) := by decide +kernel
theorem dX8_fitsAs_82 : decode cX8_fitsAs 82 = .ok (.ireturn, 1) := by decide +kernel
theorem dX8_fits_0 : decode cX8_fits 0 = .ok (.aload_n 0, 1) := by decide +kernel
theorem dX8_fits_1 : decode cX8_fits 1 = .ok (.iload_n 1, 1) := by decide +kernel
theorem dX8_fits_2 : decode cX8_fits 2 = .ok (.iload_n 2, 1) := by decide +kernel
theorem dX8_fits_3 : decode cX8_fits 3 = .ok (.invokevirtual 190, 3) := by decide +kernel
theorem dX8_fits_6 : decode cX8_fits 6 = .ok (.istore_n 3, 1) := by decide +kernel
theorem dX8_fits_7 : decode cX8_fits 7 = .ok (.iload_n 3, 1) := by decide +kernel
theorem dX8_fits_8 : decode cX8_fits 8 = .ok (.ifCond .lt 9, 3) := by decide +kernel
theorem dX8_fits_11 : decode cX8_fits 11 = .ok (.aload_n 0, 1) := by decide +kernel
theorem dX8_fits_12 : decode cX8_fits 12 = .ok (.iload_n 3, 1) := by decide +kernel
theorem dX8_fits_13 : decode cX8_fits 13 = .ok (.invokevirtual 106, 3) := by decide +kernel
theorem dX8_fits_16 : decode cX8_fits 16 = .ok (.ireturn, 1) := by decide +kernel
theorem dX8_fits_17 : decode cX8_fits 17 = .ok (.iconst 0, 1) := by decide +kernel
theorem dX8_fits_18 : decode cX8_fits 18 = .ok (.istore 4, 2) := by decide +kernel
theorem dX8_fits_20 : decode cX8_fits 20 = .ok (.iconst 0, 1) := by decide +kernel
theorem dX8_fits_21 : decode cX8_fits 21 = .ok (.istore 5, 2) := by decide +kernel
theorem dX8_fits_23 : decode cX8_fits 23 = .ok (.iload 5, 2) := by decide +kernel
theorem dX8_fits_25 : decode cX8_fits 25 = .ok (.bipush 16, 2) := by decide +kernel
theorem dX8_fits_27 : decode cX8_fits 27 = .ok (.if_icmp .ge 36, 3) := by decide +kernel
theorem dX8_fits_30 : decode cX8_fits 30 = .ok (.iload 4, 2) := by decide +kernel
theorem dX8_fits_32 : decode cX8_fits 32 = .ok (.iload 5, 2) := by decide +kernel
theorem dX8_fits_34 : decode cX8_fits 34 = .ok (.iload_n 2, 1) := by decide +kernel
theorem dX8_fits_35 : decode cX8_fits 35 = .ok (.if_icmp .eq 18, 3) := by decide +kernel
theorem dX8_fits_38 : decode cX8_fits 38 = .ok (.aload_n 0, 1) := by decide +kernel
theorem dX8_fits_39 : decode cX8_fits 39 = .ok (.iload_n 1, 1) := by decide +kernel
theorem dX8_fits_40 : decode cX8_fits 40 = .ok (.iload_n 2, 1) := by decide +kernel
theorem dX8_fits_41 : decode cX8_fits 41 = .ok (.iload 5, 2) := by decide +kernel
theorem dX8_fits_43 : decode cX8_fits 43 = .ok (.invokevirtual 193, 3) := by decide +kernel
theorem dX8_fits_46 : decode cX8_fits 46 = .ok (.ifCond .eq 7, 3) := by decide +kernel
theorem dX8_fits_49 : decode cX8_fits 49 = .ok (.iconst 1, 1) := by decide +kernel
theorem dX8_fits_50 : decode cX8_fits 50 = .ok (.goto 4, 3) := by decide +kernel
theorem dX8_fits_53 : decode cX8_fits 53 = .ok (.iconst 0, 1) := by decide +kernel
theorem dX8_fits_54 : decode cX8_fits 54 = .ok (.iadd, 1) := by decide +kernel
theorem dX8_fits_55 : decode cX8_fits 55 = .ok (.istore 4, 2) := by decide +kernel
theorem dX8_fits_57 : decode cX8_fits 57 = .ok (.iinc 5 1, 3) := by decide +kernel
theorem dX8_fits_60 : decode cX8_fits 60 = .ok (.goto (-37), 3) := by decide +kernel
theorem dX8_fits_63 : decode cX8_fits 63 = .ok (.iload 4, 2) := by decide +kernel
theorem dX8_fits_65 : decode cX8_fits 65 = .ok (.ireturn, 1) := by decide +kernel
theorem dX8_lens_0 : decode cX8_lens 0 = .ok (.aload_n 0, 1) := by decide +kernel
theorem dX8_lens_1 : decode cX8_lens 1 = .ok (.iload_n 1, 1) := by decide +kernel
theorem dX8_lens_2 : decode cX8_lens 2 = .ok (.iload_n 2, 1) := by decide +kernel
theorem dX8_lens_3 : decode cX8_lens 3 = .ok (.invokevirtual 190, 3) := by decide +kernel
theorem dX8_lens_6 : decode cX8_lens 6 = .ok (.istore_n 3, 1) := by decide +kernel
theorem dX8_lens_7 : decode cX8_lens 7 = .ok (.iload_n 3, 1) := by decide +kernel
theorem dX8_lens_8 : decode cX8_lens 8 = .ok (.ifCond .lt 9, 3) := by decide +kernel
theorem dX8_lens_11 : decode cX8_lens 11 = .ok (.aload_n 0, 1) := by decide +kernel
theorem dX8_lens_12 : decode cX8_lens 12 = .ok (.iload_n 3, 1) := by decide +kernel
theorem dX8_lens_13 : decode cX8_lens 13 = .ok (.invokevirtual 106, 3) := by decide +kernel
theorem dX8_lens_16 : decode cX8_lens 16 = .ok (.ireturn, 1) := by decide +kernel
theorem dX8_lens_17 : decode cX8_lens 17 = .ok (.iconst 0, 1) := by decide +kernel
theorem dX8_lens_18 : decode cX8_lens 18 = .ok (.istore 4, 2) := by decide +kernel
theorem dX8_lens_20 : decode cX8_lens 20 = .ok (.iload 4, 2) := by decide +kernel
theorem dX8_lens_22 : decode cX8_lens 22 = .ok (.bipush 16, 2) := by decide +kernel
theorem dX8_lens_24 : decode cX8_lens 24 = .ok (.if_icmp .ge 29, 3) := by decide +kernel
theorem dX8_lens_27 : decode cX8_lens 27 = .ok (.iload 4, 2) := by decide +kernel
theorem dX8_lens_29 : decode cX8_lens 29 = .ok (.iload_n 2, 1) := by decide +kernel
theorem dX8_lens_30 : decode cX8_lens 30 = .ok (.if_icmp .eq 17, 3) := by decide +kernel
theorem dX8_lens_33 : decode cX8_lens 33 = .ok (.aload_n 0, 1) := by decide +kernel
theorem dX8_lens_34 : decode cX8_lens 34 = .ok (.iload_n 1, 1) := by decide +kernel
theorem dX8_lens_35 : decode cX8_lens 35 = .ok (.iload_n 2, 1) := by decide +kernel
theorem dX8_lens_36 : decode cX8_lens 36 = .ok (.iload 4, 2) := by decide +kernel
theorem dX8_lens_38 : decode cX8_lens 38 = .ok (.invokevirtual 193, 3) := by decide +kernel
theorem dX8_lens_41 : decode cX8_lens 41 = .ok (.ifCond .eq 6, 3) := by decide +kernel
theorem dX8_lens_44 : decode cX8_lens 44 = .ok (.iload 4, 2) := by decide +kernel
theorem dX8_lens_46 : decode cX8_lens 46 = .ok (.ireturn, 1) := by decide +kernel
theorem dX8_lens_47 : decode cX8_lens 47 = .ok (.iinc 4 1, 3) := by decide +kernel
theorem dX8_lens_50 : decode cX8_lens 50 = .ok (.goto (-30), 3) := by decide +kernel
theorem dX8_lens_53 : decode cX8_lens 53 = .ok (.aload_n 0, 1) := by decide +kernel
theorem dX8_lens_54 : decode cX8_lens 54 = .ok (.iconst 3, 1) := by decide +kernel
theorem dX8_lens_55 : decode cX8_lens 55 = .ok (.invokevirtual 106, 3) := by decide +kernel
theorem dX8_lens_58 : decode cX8_lens 58 = .ok (.ireturn, 1) := by decide +kernel
theorem dX8_which_0 : decode cX8_which 0 = .ok (.aload_n 0, 1) := by decide +kernel
theorem dX8_which_1 : decode cX8_which 1 = .ok (.iload_n 1, 1) := by decide +kernel
theorem dX8_which_2 : decode cX8_which 2 = .ok (.invokevirtual 184, 3) := by decide +kernel
theorem dX8_which_5 : decode cX8_which 5 = .ok (.istore_n 2, 1) := by decide +kernel
theorem dX8_which_6 : decode cX8_which 6 = .ok (.iload_n 2, 1) := by decide +kernel
theorem dX8_which_7 : decode cX8_which 7 = .ok (.ifCond .lt 9, 3) := by decide +kernel
theorem dX8_which_10 : decode cX8_which 10 = .ok (.aload_n 0, 1) := by decide +kernel
theorem dX8_which_11 : decode cX8_which 11 = .ok (.iload_n 2, 1) := by decide +kernel
theorem dX8_which_12 : decode cX8_which 12 = .ok (.invokevirtual 106, 3) := by decide +kernel
theorem dX8_which_15 : decode cX8_which 15 = .ok (.ireturn, 1) := by decide +kernel
theorem dX8_which_16 : decode cX8_which 16 = .ok (.iconst 1, 1) := by decide +kernel
theorem dX8_which_17 : decode cX8_which 17 = .ok (.aload_n 0, 1) := by decide +kernel
theorem dX8_which_18 : decode cX8_which 18 = .ok (.getfield 9, 3) := by decide +kernel
theorem dX8_which_21 : decode cX8_which 21 = .ok (.iconst 1, 1) := by decide +kernel
theorem dX8_which_22 : decode cX8_which 22 = .ok (.iaload, 1) := by decide +kernel
theorem dX8_which_23 : decode cX8_which 23 = .ok (.ishl, 1) := by decide +kernel
theorem dX8_which_24 : decode cX8_which 24 = .ok (.iconst 1, 1) := by decide +kernel
theorem dX8_which_25 : decode cX8_which 25 = .ok (.isub, 1) := by decide +kernel
theorem dX8_which_26 : decode cX8_which 26 = .ok (.istore_n 3, 1) := by decide +kernel
theorem dX8_which_27 : decode cX8_which 27 = .ok (.aload_n 0, 1) := by decide +kernel
theorem dX8_which_28 : decode cX8_which 28 = .ok (.invokevirtual 165, 3) := by decide +kernel
theorem dX8_which_31 : decode cX8_which 31 = .ok (.iconst 0, 1) := by decide +kernel
theorem dX8_which_32 : decode cX8_which 32 = .ok (.istore 4, 2) := by decide +kernel
theorem dX8_which_34 : decode cX8_which 34 = .ok (.iload 4, 2) := by decide +kernel
theorem dX8_which_36 : decode cX8_which 36 = .ok (.aload_n 0, 1) := by decide +kernel
theorem dX8_which_37 : decode cX8_which 37 = .ok (.getfield 44, 3) := by decide +kernel
theorem dX8_which_40 : decode cX8_which 40 = .ok (.iload_n 1, 1) := by decide +kernel
theorem dX8_which_41 : decode cX8_which 41 = .ok (.iaload, 1) := by decide +kernel
theorem dX8_which_42 : decode cX8_which 42 = .ok (.if_icmp .ge 74, 3) := by decide +kernel
theorem dX8_which_45 : decode cX8_which 45 = .ok (.iconst 0, 1) := by decide +kernel
theorem dX8_which_46 : decode cX8_which 46 = .ok (.istore 5, 2) := by decide +kernel
theorem dX8_which_48 : decode cX8_which 48 = .ok (.iload 5, 2) := by decide +kernel
theorem dX8_which_50 : decode cX8_which 50 = .ok (.aload_n 0, 1) := by decide +kernel
theorem dX8_which_51 : decode cX8_which 51 = .ok (.getfield 9, 3) := by decide +kernel
theorem dX8_which_54 : decode cX8_which 54 = .ok (.iconst 1, 1) := by decide +kernel
theorem dX8_which_55 : decode cX8_which 55 = .ok (.iaload, 1) := by decide +kernel
theorem dX8_which_56 : decode cX8_which 56 = .ok (.if_icmp .ge 50, 3) := by decide +kernel
theorem dX8_which_59 : decode cX8_which 59 = .ok (.iload_n 3, 1) := by decide +kernel
theorem dX8_which_60 : decode cX8_which 60 = .ok (.aload_n 0, 1) := by decide +kernel
theorem dX8_which_61 : decode cX8_which 61 = .ok (.iload_n 1, 1) := by decide +kernel
theorem dX8_which_62 : decode cX8_which 62 = .ok (.iload 4, 2) := by decide +kernel
theorem dX8_which_64 : decode cX8_which 64 = .ok (.invokevirtual 187, 3) := by decide +kernel
theorem dX8_which_67 : decode cX8_which 67 = .ok (.iconst (-1), 1) := by decide +kernel
theorem dX8_which_68 : decode cX8_which 68 = .ok (.if_icmp .eq 20, 3) := by decide +kernel
theorem dX8_which_71 : decode cX8_which 71 = .ok (.aload_n 0, 1) := by decide +kernel
theorem dX8_which_72 : decode cX8_which 72 = .ok (.iload_n 1, 1) := by decide +kernel
theorem dX8_which_73 : decode cX8_which 73 = .ok (.iload 4, 2) := by decide +kernel
theorem dX8_which_75 : decode cX8_which 75 = .ok (.invokevirtual 187, 3) := by decide +kernel
theorem dX8_which_78 : decode cX8_which 78 = .ok (.aload_n 0, 1) := by decide +kernel
theorem dX8_which_79 : decode cX8_which 79 = .ok (.iload 5, 2) := by decide +kernel
theorem dX8_which_81 : decode cX8_which 81 = .ok (.iconst 1, 1) := by decide +kernel
theorem dX8_which_82 : decode cX8_which 82 = .ok (.invokevirtual 62, 3) := by decide +kernel
theorem dX8_which_85 : decode cX8_which 85 = .ok (.if_icmp .ne 7, 3) := by decide +kernel
theorem dX8_which_88 : decode cX8_which 88 = .ok (.iload_n 3, 1) := by decide +kernel
theorem dX8_which_89 : decode cX8_which 89 = .ok (.goto 9, 3) := by decide +kernel
theorem dX8_which_92 : decode cX8_which 92 = .ok (.iconst 1, 1) := by decide +kernel
theorem dX8_which_93 : decode cX8_which 93 = .ok (.iload 5, 2) := by decide +kernel
theorem dX8_which_95 : decode cX8_which 95 = .ok (.ishl, 1) := by decide +kernel
theorem dX8_which_96 : decode cX8_which 96 = .ok (.iconst (-1), 1) := by decide +kernel
theorem dX8_which_97 : decode cX8_which 97 = .ok (.ixor, 1) := by decide +kernel
theorem dX8_which_98 : decode cX8_which 98 = .ok (.iand, 1) := by decide +kernel
theorem dX8_which_99 : decode cX8_which 99 = .ok (.istore_n 3, 1) := by decide +kernel
theorem dX8_which_100 : decode cX8_which 100 = .ok (.iinc 5 1, 3) := by decide +kernel
theorem dX8_which_103 : decode cX8_which 103 = .ok (.goto (-55), 3) := by decide +kernel
theorem dX8_which_106 : decode cX8_which 106 = .ok (.aload_n 0, 1) := by decide +kernel
theorem dX8_which_107 : decode cX8_which 107 = .ok (.invokevirtual 119, 3) := by decide +kernel
theorem dX8_which_110 : decode cX8_which 110 = .ok (.iinc 4 1, 3) := by decide +kernel
theorem dX8_which_113 : decode cX8_which 113 = .ok (.goto (-79), 3) := by decide +kernel
theorem dX8_which_116 : decode cX8_which 116 = .ok (.aload_n 0, 1) := by decide +kernel
theorem dX8_which_117 : decode cX8_which 117 = .ok (.invokevirtual 168, 3) := by decide +kernel
theorem dX8_which_120 : decode cX8_which 120 = .ok (.iload_n 3, 1) := by decide +kernel
theorem dX8_which_121 : decode cX8_which 121 = .ok (.ireturn, 1) := by decide +kernel
theorem dX8_eyes_0 : decode cX8_eyes 0 = .ok (.iconst (-1), 1) := by decide +kernel
theorem dX8_eyes_1 : decode cX8_eyes 1 = .ok (.istore_n 1, 1) := by decide +kernel
theorem dX8_eyes_2 : decode cX8_eyes 2 = .ok (.iconst 0, 1) := by decide +kernel
theorem dX8_eyes_3 : decode cX8_eyes 3 = .ok (.istore_n 2, 1) := by decide +kernel
theorem dX8_eyes_4 : decode cX8_eyes 4 = .ok (.iload_n 2, 1) := by decide +kernel
theorem dX8_eyes_5 : decode cX8_eyes 5 = .ok (.ldc 196, 2) := by decide +kernel
theorem dX8_eyes_7 : decode cX8_eyes 7 = .ok (.if_icmp .ge 82, 3) := by decide +kernel
theorem dX8_eyes_10 : decode cX8_eyes 10 = .ok (.iload_n 1, 1) := by decide +kernel
theorem dX8_eyes_11 : decode cX8_eyes 11 = .ok (.ifCond .lt 14, 3) := by decide +kernel
theorem dX8_eyes_14 : decode cX8_eyes 14 = .ok (.iload_n 2, 1) := by decide +kernel
theorem dX8_eyes_15 : decode cX8_eyes 15 = .ok (.invokestatic 159, 3) := by decide +kernel
theorem dX8_eyes_18 : decode cX8_eyes 18 = .ok (.iload_n 1, 1) := by decide +kernel
theorem dX8_eyes_19 : decode cX8_eyes 19 = .ok (.invokestatic 159, 3) := by decide +kernel
theorem dX8_eyes_22 : decode cX8_eyes 22 = .ok (.if_icmp .ge 61, 3) := by decide +kernel
theorem dX8_eyes_25 : decode cX8_eyes 25 = .ok (.iconst 1, 1) := by decide +kernel
theorem dX8_eyes_26 : decode cX8_eyes 26 = .ok (.istore_n 3, 1) := by decide +kernel
theorem dX8_eyes_27 : decode cX8_eyes 27 = .ok (.iconst 0, 1) := by decide +kernel
theorem dX8_eyes_28 : decode cX8_eyes 28 = .ok (.istore 4, 2) := by decide +kernel
theorem dX8_eyes_30 : decode cX8_eyes 30 = .ok (.iload 4, 2) := by decide +kernel
theorem dX8_eyes_32 : decode cX8_eyes 32 = .ok (.aload_n 0, 1) := by decide +kernel
theorem dX8_eyes_33 : decode cX8_eyes 33 = .ok (.getfield 9, 3) := by decide +kernel
theorem dX8_eyes_36 : decode cX8_eyes 36 = .ok (.iconst 1, 1) := by decide +kernel
theorem dX8_eyes_37 : decode cX8_eyes 37 = .ok (.iaload, 1) := by decide +kernel
theorem dX8_eyes_38 : decode cX8_eyes 38 = .ok (.if_icmp .ge 35, 3) := by decide +kernel
theorem dX8_eyes_41 : decode cX8_eyes 41 = .ok (.iload_n 3, 1) := by decide +kernel
theorem dX8_eyes_42 : decode cX8_eyes 42 = .ok (.ifCond .eq 31, 3) := by decide +kernel
theorem dX8_eyes_45 : decode cX8_eyes 45 = .ok (.aload_n 0, 1) := by decide +kernel
theorem dX8_eyes_46 : decode cX8_eyes 46 = .ok (.aload_n 0, 1) := by decide +kernel
theorem dX8_eyes_47 : decode cX8_eyes 47 = .ok (.iload 4, 2) := by decide +kernel
theorem dX8_eyes_49 : decode cX8_eyes 49 = .ok (.iconst 1, 1) := by decide +kernel
theorem dX8_eyes_50 : decode cX8_eyes 50 = .ok (.invokevirtual 62, 3) := by decide +kernel
theorem dX8_eyes_53 : decode cX8_eyes 53 = .ok (.invokevirtual 76, 3) := by decide +kernel
theorem dX8_eyes_56 : decode cX8_eyes 56 = .ok (.iload_n 2, 1) := by decide +kernel
theorem dX8_eyes_57 : decode cX8_eyes 57 = .ok (.iand, 1) := by decide +kernel
theorem dX8_eyes_58 : decode cX8_eyes 58 = .ok (.ifCond .eq 7, 3) := by decide +kernel
theorem dX8_eyes_61 : decode cX8_eyes 61 = .ok (.iconst 1, 1) := by decide +kernel
theorem dX8_eyes_62 : decode cX8_eyes 62 = .ok (.goto 4, 3) := by decide +kernel
theorem dX8_eyes_65 : decode cX8_eyes 65 = .ok (.iconst 0, 1) := by decide +kernel
theorem dX8_eyes_66 : decode cX8_eyes 66 = .ok (.istore_n 3, 1) := by decide +kernel
theorem dX8_eyes_67 : decode cX8_eyes 67 = .ok (.iinc 4 1, 3) := by decide +kernel
theorem dX8_eyes_70 : decode cX8_eyes 70 = .ok (.goto (-40), 3) := by decide +kernel
theorem dX8_eyes_73 : decode cX8_eyes 73 = .ok (.iload_n 3, 1) := by decide +kernel
theorem dX8_eyes_74 : decode cX8_eyes 74 = .ok (.ifCond .eq 7, 3) := by decide +kernel
theorem dX8_eyes_77 : decode cX8_eyes 77 = .ok (.iload_n 2, 1) := by decide +kernel
theorem dX8_eyes_78 : decode cX8_eyes 78 = .ok (.goto 4, 3) := by decide +kernel
theorem dX8_eyes_81 : decode cX8_eyes 81 = .ok (.iload_n 1, 1) := by decide +kernel
theorem dX8_eyes_82 : decode cX8_eyes 82 = .ok (.istore_n 1, 1) := by decide +kernel
theorem dX8_eyes_83 : decode cX8_eyes 83 = .ok (.iinc 2 1, 3) := by decide +kernel
theorem dX8_eyes_86 : decode cX8_eyes 86 = .ok (.goto (-82), 3) := by decide +kernel
theorem dX8_eyes_89 : decode cX8_eyes 89 = .ok (.iload_n 1, 1) := by decide +kernel
theorem dX8_eyes_90 : decode cX8_eyes 90 = .ok (.ifCond .ge 11, 3) := by decide +kernel
theorem dX8_eyes_93 : decode cX8_eyes 93 = .ok (.aload_n 0, 1) := by decide +kernel
theorem dX8_eyes_94 : decode cX8_eyes 94 = .ok (.iconst 3, 1) := by decide +kernel
theorem dX8_eyes_95 : decode cX8_eyes 95 = .ok (.invokevirtual 106, 3) := by decide +kernel
theorem dX8_eyes_98 : decode cX8_eyes 98 = .ok (.goto 4, 3) := by decide +kernel
theorem dX8_eyes_101 : decode cX8_eyes 101 = .ok (.iload_n 1, 1) := by decide +kernel
theorem dX8_eyes_102 : decode cX8_eyes 102 = .ok (.ireturn, 1) := by decide +kernel
theorem dX8_dredge_0 : decode cX8_dredge 0 = .ok (.aload_n 0, 1) := by decide +kernel
theorem dX8_dredge_1 : decode cX8_dredge 1 = .ok (.iload_n 1, 1) := by decide +kernel
theorem dX8_dredge_2 : decode cX8_dredge 2 = .ok (.invokevirtual 116, 3) := by decide +kernel
theorem dX8_dredge_5 : decode cX8_dredge 5 = .ok (.ifCond .eq 12, 3) := by decide +kernel
theorem dX8_dredge_8 : decode cX8_dredge 8 = .ok (.iload_n 2, 1) := by decide +kernel
theorem dX8_dredge_9 : decode cX8_dredge 9 = .ok (.iconst 0, 1) := by decide +kernel
theorem dX8_dredge_10 : decode cX8_dredge 10 = .ok (.iconst 1, 1) := by decide +kernel
theorem dX8_dredge_11 : decode cX8_dredge 11 = .ok (.invokestatic 58, 3) := by decide +kernel
theorem dX8_dredge_14 : decode cX8_dredge 14 = .ok (.ifCond .ne 9, 3) := by decide +kernel
theorem dX8_dredge_17 : decode cX8_dredge 17 = .ok (.aload_n 0, 1) := by decide +kernel
theorem dX8_dredge_18 : decode cX8_dredge 18 = .ok (.iconst 0, 1) := by decide +kernel
theorem dX8_dredge_19 : decode cX8_dredge 19 = .ok (.invokevirtual 106, 3) := by decide +kernel
theorem dX8_dredge_22 : decode cX8_dredge 22 = .ok (.ireturn, 1) := by decide +kernel
theorem dX8_dredge_23 : decode cX8_dredge 23 = .ok (.aload_n 0, 1) := by decide +kernel
theorem dX8_dredge_24 : decode cX8_dredge 24 = .ok (.aload_n 0, 1) := by decide +kernel
theorem dX8_dredge_25 : decode cX8_dredge 25 = .ok (.iload_n 1, 1) := by decide +kernel
theorem dX8_dredge_26 : decode cX8_dredge 26 = .ok (.iconst 1, 1) := by decide +kernel
theorem dX8_dredge_27 : decode cX8_dredge 27 = .ok (.invokevirtual 62, 3) := by decide +kernel
theorem dX8_dredge_30 : decode cX8_dredge 30 = .ok (.invokevirtual 76, 3) := by decide +kernel
theorem dX8_dredge_33 : decode cX8_dredge 33 = .ok (.istore_n 3, 1) := by decide +kernel
theorem dX8_dredge_34 : decode cX8_dredge 34 = .ok (.iconst 0, 1) := by decide +kernel
theorem dX8_dredge_35 : decode cX8_dredge 35 = .ok (.istore 4, 2) := by decide +kernel
theorem dX8_dredge_37 : decode cX8_dredge 37 = .ok (.iconst 0, 1) := by decide +kernel
theorem dX8_dredge_38 : decode cX8_dredge 38 = .ok (.istore 5, 2) := by decide +kernel
theorem dX8_dredge_40 : decode cX8_dredge 40 = .ok (.iconst 0, 1) := by decide +kernel
theorem dX8_dredge_41 : decode cX8_dredge 41 = .ok (.istore 6, 2) := by decide +kernel
theorem dX8_dredge_43 : decode cX8_dredge 43 = .ok (.iload 6, 2) := by decide +kernel
theorem dX8_dredge_45 : decode cX8_dredge 45 = .ok (.bipush 16, 2) := by decide +kernel
theorem dX8_dredge_47 : decode cX8_dredge 47 = .ok (.if_icmp .ge 65, 3) := by decide +kernel
theorem dX8_dredge_50 : decode cX8_dredge 50 = .ok (.aload_n 0, 1) := by decide +kernel
theorem dX8_dredge_51 : decode cX8_dredge 51 = .ok (.iload 6, 2) := by decide +kernel
theorem dX8_dredge_53 : decode cX8_dredge 53 = .ok (.invokevirtual 76, 3) := by decide +kernel
theorem dX8_dredge_56 : decode cX8_dredge 56 = .ok (.iload_n 3, 1) := by decide +kernel
theorem dX8_dredge_57 : decode cX8_dredge 57 = .ok (.if_icmp .ne 7, 3) := by decide +kernel
theorem dX8_dredge_60 : decode cX8_dredge 60 = .ok (.iconst 1, 1) := by decide +kernel
theorem dX8_dredge_61 : decode cX8_dredge 61 = .ok (.goto 4, 3) := by decide +kernel
theorem dX8_dredge_64 : decode cX8_dredge 64 = .ok (.iconst 0, 1) := by decide +kernel
theorem dX8_dredge_65 : decode cX8_dredge 65 = .ok (.istore 7, 2) := by decide +kernel
theorem dX8_dredge_67 : decode cX8_dredge 67 = .ok (.iload 4, 2) := by decide +kernel
theorem dX8_dredge_69 : decode cX8_dredge 69 = .ok (.iload 7, 2) := by decide +kernel
theorem dX8_dredge_71 : decode cX8_dredge 71 = .ok (.ifCond .eq 10, 3) := by decide +kernel
theorem dX8_dredge_74 : decode cX8_dredge 74 = .ok (.iconst 1, 1) := by decide +kernel
theorem dX8_dredge_75 : decode cX8_dredge 75 = .ok (.iload 6, 2) := by decide +kernel
theorem dX8_dredge_77 : decode cX8_dredge 77 = .ok (.ishl, 1) := by decide +kernel
theorem dX8_dredge_78 : decode cX8_dredge 78 = .ok (.goto 4, 3) := by decide +kernel
theorem dX8_dredge_81 : decode cX8_dredge 81 = .ok (.iconst 0, 1) := by decide +kernel
theorem dX8_dredge_82 : decode cX8_dredge 82 = .ok (.ior, 1) := by decide +kernel
theorem dX8_dredge_83 : decode cX8_dredge 83 = .ok (.istore 4, 2) := by decide +kernel
theorem dX8_dredge_85 : decode cX8_dredge 85 = .ok (.iload 5, 2) := by decide +kernel
theorem dX8_dredge_87 : decode cX8_dredge 87 = .ok (.iload 7, 2) := by decide +kernel
theorem dX8_dredge_89 : decode cX8_dredge 89 = .ok (.ifCond .eq 13, 3) := by decide +kernel
theorem dX8_dredge_92 : decode cX8_dredge 92 = .ok (.aload_n 0, 1) := by decide +kernel
theorem dX8_dredge_93 : decode cX8_dredge 93 = .ok (.iload 6, 2) := by decide +kernel
theorem dX8_dredge_95 : decode cX8_dredge 95 = .ok (.iconst 5, 1) := by decide +kernel
theorem dX8_dredge_96 : decode cX8_dredge 96 = .ok (.invokevirtual 66, 3) := by decide +kernel
theorem dX8_dredge_99 : decode cX8_dredge 99 = .ok (.goto 4, 3) := by decide +kernel
theorem dX8_dredge_102 : decode cX8_dredge 102 = .ok (.iconst 0, 1) := by decide +kernel
theorem dX8_dredge_103 : decode cX8_dredge 103 = .ok (.iadd, 1) := by decide +kernel
theorem dX8_dredge_104 : decode cX8_dredge 104 = .ok (.istore 5, 2) := by decide +kernel
theorem dX8_dredge_106 : decode cX8_dredge 106 = .ok (.iinc 6 1, 3) := by decide +kernel
theorem dX8_dredge_109 : decode cX8_dredge 109 = .ok (.goto (-66), 3) := by decide +kernel
theorem dX8_dredge_112 : decode cX8_dredge 112 = .ok (.iload_n 2, 1) := by decide +kernel
theorem dX8_dredge_113 : decode cX8_dredge 113 = .ok (.ifCond .ne 8, 3) := by decide +kernel
theorem dX8_dredge_116 : decode cX8_dredge 116 = .ok (.iload 4, 2) := by decide +kernel
theorem dX8_dredge_118 : decode cX8_dredge 118 = .ok (.goto 5, 3) := by decide +kernel
theorem dX8_dredge_121 : decode cX8_dredge 121 = .ok (.iload 5, 2) := by decide +kernel
theorem dX8_dredge_123 : decode cX8_dredge 123 = .ok (.ireturn, 1) := by decide +kernel
theorem dX8_watch_0 : decode cX8_watch 0 = .ok (.iload_n 1, 1) := by decide +kernel
theorem dX8_watch_1 : decode cX8_watch 1 = .ok (.iconst 1, 1) := by decide +kernel
theorem dX8_watch_2 : decode cX8_watch 2 = .ok (.bipush 40, 2) := by decide +kernel
theorem dX8_watch_4 : decode cX8_watch 4 = .ok (.invokestatic 58, 3) := by decide +kernel
theorem dX8_watch_7 : decode cX8_watch 7 = .ok (.ifCond .ne 9, 3) := by decide +kernel
theorem dX8_watch_10 : decode cX8_watch 10 = .ok (.aload_n 0, 1) := by decide +kernel
theorem dX8_watch_11 : decode cX8_watch 11 = .ok (.iconst 0, 1) := by decide +kernel
theorem dX8_watch_12 : decode cX8_watch 12 = .ok (.invokevirtual 106, 3) := by decide +kernel
theorem dX8_watch_15 : decode cX8_watch 15 = .ok (.ireturn, 1) := by decide +kernel
theorem dX8_watch_16 : decode cX8_watch 16 = .ok (.aload_n 0, 1) := by decide +kernel
theorem dX8_watch_17 : decode cX8_watch 17 = .ok (.invokevirtual 165, 3) := by decide +kernel
theorem dX8_watch_20 : decode cX8_watch 20 = .ok (.aload_n 0, 1) := by decide +kernel
theorem dX8_watch_21 : decode cX8_watch 21 = .ok (.invokevirtual 175, 3) := by decide +kernel
theorem dX8_watch_24 : decode cX8_watch 24 = .ok (.iconst 0, 1) := by decide +kernel
theorem dX8_watch_25 : decode cX8_watch 25 = .ok (.istore_n 2, 1) := by decide +kernel
theorem dX8_watch_26 : decode cX8_watch 26 = .ok (.iload_n 2, 1) := by decide +kernel
theorem dX8_watch_27 : decode cX8_watch 27 = .ok (.iload_n 1, 1) := by decide +kernel
theorem dX8_watch_28 : decode cX8_watch 28 = .ok (.if_icmp .ge 44, 3) := by decide +kernel
theorem dX8_watch_31 : decode cX8_watch 31 = .ok (.aload_n 0, 1) := by decide +kernel
theorem dX8_watch_32 : decode cX8_watch 32 = .ok (.invokevirtual 119, 3) := by decide +kernel
theorem dX8_watch_35 : decode cX8_watch 35 = .ok (.iconst 0, 1) := by decide +kernel
theorem dX8_watch_36 : decode cX8_watch 36 = .ok (.istore_n 3, 1) := by decide +kernel
theorem dX8_watch_37 : decode cX8_watch 37 = .ok (.iload_n 3, 1) := by decide +kernel
theorem dX8_watch_38 : decode cX8_watch 38 = .ok (.bipush 16, 2) := by decide +kernel
theorem dX8_watch_40 : decode cX8_watch 40 = .ok (.if_icmp .ge 26, 3) := by decide +kernel
theorem dX8_watch_43 : decode cX8_watch 43 = .ok (.aload_n 0, 1) := by decide +kernel
theorem dX8_watch_44 : decode cX8_watch 44 = .ok (.getfield 22, 3) := by decide +kernel
theorem dX8_watch_47 : decode cX8_watch 47 = .ok (.iload_n 3, 1) := by decide +kernel
theorem dX8_watch_48 : decode cX8_watch 48 = .ok (.dup2, 1) := by decide +kernel
theorem dX8_watch_49 : decode cX8_watch 49 = .ok (.iaload, 1) := by decide +kernel
theorem dX8_watch_50 : decode cX8_watch 50 = .ok (.aload_n 0, 1) := by decide +kernel
theorem dX8_watch_51 : decode cX8_watch 51 = .ok (.iload_n 3, 1) := by decide +kernel
theorem dX8_watch_52 : decode cX8_watch 52 = .ok (.invokevirtual 73, 3) := by decide +kernel
theorem dX8_watch_55 : decode cX8_watch 55 = .ok (.invokestatic 159, 3) := by decide +kernel
theorem dX8_watch_58 : decode cX8_watch 58 = .ok (.iadd, 1) := by decide +kernel
theorem dX8_watch_59 : decode cX8_watch 59 = .ok (.iastore, 1) := by decide +kernel
theorem dX8_watch_60 : decode cX8_watch 60 = .ok (.iinc 3 1, 3) := by decide +kernel
theorem dX8_watch_63 : decode cX8_watch 63 = .ok (.goto (-26), 3) := by decide +kernel
theorem dX8_watch_66 : decode cX8_watch 66 = .ok (.iinc 2 1, 3) := by decide +kernel
theorem dX8_watch_69 : decode cX8_watch 69 = .ok (.goto (-43), 3) := by decide +kernel
theorem dX8_watch_72 : decode cX8_watch 72 = .ok (.aload_n 0, 1) := by decide +kernel
theorem dX8_watch_73 : decode cX8_watch 73 = .ok (.invokevirtual 168, 3) := by decide +kernel
theorem dX8_watch_76 : decode cX8_watch 76 = .ok (.aload_n 0, 1) := by decide +kernel
theorem dX8_watch_77 : decode cX8_watch 77 = .ok (.invokevirtual 178, 3) := by decide +kernel
theorem dX8_watch_80 : decode cX8_watch 80 = .ok (.ireturn, 1) := by decide +kernel
theorem dX8_draw_0 : decode cX8_draw 0 = .ok (.aload_n 0, 1) := by decide +kernel
theorem dX8_draw_1 : decode cX8_draw 1 = .ok (.getfield 9, 3) := by decide +kernel
theorem dX8_draw_4 : decode cX8_draw 4 = .ok (.iconst 2, 1) := by decide +kernel
theorem dX8_draw_5 : decode cX8_draw 5 = .ok (.aload_n 0, 1) := by decide +kernel
theorem dX8_draw_6 : decode cX8_draw 6 = .ok (.getfield 9, 3) := by decide +kernel
theorem dX8_draw_9 : decode cX8_draw 9 = .ok (.iconst 2, 1) := by decide +kernel
theorem dX8_draw_10 : decode cX8_draw 10 = .ok (.iaload, 1) := by decide +kernel
theorem dX8_draw_11 : decode cX8_draw 11 = .ok (.ldc 197, 2) := by decide +kernel
theorem dX8_draw_13 : decode cX8_draw 13 = .ok (.imul, 1) := by decide +kernel
theorem dX8_draw_14 : decode cX8_draw 14 = .ok (.sipush 12345, 3) := by decide +kernel
theorem dX8_draw_17 : decode cX8_draw 17 = .ok (.iadd, 1) := by decide +kernel
theorem dX8_draw_18 : decode cX8_draw 18 = .ok (.iastore, 1) := by decide +kernel
theorem dX8_draw_19 : decode cX8_draw 19 = .ok (.aload_n 0, 1) := by decide +kernel
theorem dX8_draw_20 : decode cX8_draw 20 = .ok (.getfield 9, 3) := by decide +kernel
theorem dX8_draw_23 : decode cX8_draw 23 = .ok (.iconst 2, 1) := by decide +kernel
theorem dX8_draw_24 : decode cX8_draw 24 = .ok (.iaload, 1) := by decide +kernel
theorem dX8_draw_25 : decode cX8_draw 25 = .ok (.bipush 8, 2) := by decide +kernel
theorem dX8_draw_27 : decode cX8_draw 27 = .ok (.iushr, 1) := by decide +kernel
theorem dX8_draw_28 : decode cX8_draw 28 = .ok (.ireturn, 1) := by decide +kernel
theorem dX8_falls_0 : decode cX8_falls 0 = .ok (.iload_n 1, 1) := by decide +kernel
theorem dX8_falls_1 : decode cX8_falls 1 = .ok (.iconst 1, 1) := by decide +kernel
theorem dX8_falls_2 : decode cX8_falls 2 = .ok (.bipush 20, 2) := by decide +kernel
theorem dX8_falls_4 : decode cX8_falls 4 = .ok (.invokestatic 58, 3) := by decide +kernel
theorem dX8_falls_7 : decode cX8_falls 7 = .ok (.ifCond .ne 9, 3) := by decide +kernel
theorem dX8_falls_10 : decode cX8_falls 10 = .ok (.aload_n 0, 1) := by decide +kernel
theorem dX8_falls_11 : decode cX8_falls 11 = .ok (.iconst 0, 1) := by decide +kernel
theorem dX8_falls_12 : decode cX8_falls 12 = .ok (.invokevirtual 106, 3) := by decide +kernel
theorem dX8_falls_15 : decode cX8_falls 15 = .ok (.ireturn, 1) := by decide +kernel
theorem dX8_falls_16 : decode cX8_falls 16 = .ok (.aload_n 0, 1) := by decide +kernel
theorem dX8_falls_17 : decode cX8_falls 17 = .ok (.getfield 9, 3) := by decide +kernel
theorem dX8_falls_20 : decode cX8_falls 20 = .ok (.iconst 0, 1) := by decide +kernel
theorem dX8_falls_21 : decode cX8_falls 21 = .ok (.iaload, 1) := by decide +kernel
theorem dX8_falls_22 : decode cX8_falls 22 = .ok (.iload_n 1, 1) := by decide +kernel
theorem dX8_falls_23 : decode cX8_falls 23 = .ok (.iadd, 1) := by decide +kernel
theorem dX8_falls_24 : decode cX8_falls 24 = .ok (.ldc 98, 2) := by decide +kernel
theorem dX8_falls_26 : decode cX8_falls 26 = .ok (.if_icmp .le 9, 3) := by decide +kernel
theorem dX8_falls_29 : decode cX8_falls 29 = .ok (.aload_n 0, 1) := by decide +kernel
theorem dX8_falls_30 : decode cX8_falls 30 = .ok (.iconst 4, 1) := by decide +kernel
theorem dX8_falls_31 : decode cX8_falls 31 = .ok (.invokevirtual 106, 3) := by decide +kernel
theorem dX8_falls_34 : decode cX8_falls 34 = .ok (.ireturn, 1) := by decide +kernel
theorem dX8_falls_35 : decode cX8_falls 35 = .ok (.iconst 0, 1) := by decide +kernel
theorem dX8_falls_36 : decode cX8_falls 36 = .ok (.istore_n 2, 1) := by decide +kernel
theorem dX8_falls_37 : decode cX8_falls 37 = .ok (.iconst 0, 1) := by decide +kernel
theorem dX8_falls_38 : decode cX8_falls 38 = .ok (.istore_n 3, 1) := by decide +kernel
theorem dX8_falls_39 : decode cX8_falls 39 = .ok (.iload_n 3, 1) := by decide +kernel
theorem dX8_falls_40 : decode cX8_falls 40 = .ok (.iload_n 1, 1) := by decide +kernel
theorem dX8_falls_41 : decode cX8_falls 41 = .ok (.if_icmp .ge 60, 3) := by decide +kernel
theorem dX8_falls_44 : decode cX8_falls 44 = .ok (.aload_n 0, 1) := by decide +kernel
theorem dX8_falls_45 : decode cX8_falls 45 = .ok (.getfield 9, 3) := by decide +kernel
theorem dX8_falls_48 : decode cX8_falls 48 = .ok (.iconst 1, 1) := by decide +kernel
theorem dX8_falls_49 : decode cX8_falls 49 = .ok (.iaload, 1) := by decide +kernel
theorem dX8_falls_50 : decode cX8_falls 50 = .ok (.ifCond .le 30, 3) := by decide +kernel
theorem dX8_falls_53 : decode cX8_falls 53 = .ok (.aload_n 0, 1) := by decide +kernel
theorem dX8_falls_54 : decode cX8_falls 54 = .ok (.invokevirtual 198, 3) := by decide +kernel
theorem dX8_falls_57 : decode cX8_falls 57 = .ok (.aload_n 0, 1) := by decide +kernel
theorem dX8_falls_58 : decode cX8_falls 58 = .ok (.getfield 9, 3) := by decide +kernel
theorem dX8_falls_61 : decode cX8_falls 61 = .ok (.iconst 1, 1) := by decide +kernel
theorem dX8_falls_62 : decode cX8_falls 62 = .ok (.iaload, 1) := by decide +kernel
theorem dX8_falls_63 : decode cX8_falls 63 = .ok (.irem, 1) := by decide +kernel
theorem dX8_falls_64 : decode cX8_falls 64 = .ok (.istore 4, 2) := by decide +kernel
theorem dX8_falls_66 : decode cX8_falls 66 = .ok (.aload_n 0, 1) := by decide +kernel
theorem dX8_falls_67 : decode cX8_falls 67 = .ok (.iload 4, 2) := by decide +kernel
theorem dX8_falls_69 : decode cX8_falls 69 = .ok (.iconst 1, 1) := by decide +kernel
theorem dX8_falls_70 : decode cX8_falls 70 = .ok (.aload_n 0, 1) := by decide +kernel
theorem dX8_falls_71 : decode cX8_falls 71 = .ok (.invokevirtual 198, 3) := by decide +kernel
theorem dX8_falls_74 : decode cX8_falls 74 = .ok (.bipush 16, 2) := by decide +kernel
theorem dX8_falls_76 : decode cX8_falls 76 = .ok (.irem, 1) := by decide +kernel
theorem dX8_falls_77 : decode cX8_falls 77 = .ok (.invokevirtual 95, 3) := by decide +kernel
theorem dX8_falls_80 : decode cX8_falls 80 = .ok (.aload_n 0, 1) := by decide +kernel
theorem dX8_falls_81 : decode cX8_falls 81 = .ok (.invokevirtual 119, 3) := by decide +kernel
theorem dX8_falls_84 : decode cX8_falls 84 = .ok (.iload_n 2, 1) := by decide +kernel
theorem dX8_falls_85 : decode cX8_falls 85 = .ok (.aload_n 0, 1) := by decide +kernel
theorem dX8_falls_86 : decode cX8_falls 86 = .ok (.iconst 1, 1) := by decide +kernel
theorem dX8_falls_87 : decode cX8_falls 87 = .ok (.invokevirtual 122, 3) := by decide +kernel
theorem dX8_falls_90 : decode cX8_falls 90 = .ok (.invokestatic 159, 3) := by decide +kernel
theorem dX8_falls_93 : decode cX8_falls 93 = .ok (.iadd, 1) := by decide +kernel
theorem dX8_falls_94 : decode cX8_falls 94 = .ok (.istore_n 2, 1) := by decide +kernel
theorem dX8_falls_95 : decode cX8_falls 95 = .ok (.iinc 3 1, 3) := by decide +kernel
theorem dX8_falls_98 : decode cX8_falls 98 = .ok (.goto (-59), 3) := by decide +kernel
theorem dX8_falls_101 : decode cX8_falls 101 = .ok (.iload_n 2, 1) := by decide +kernel
theorem dX8_falls_102 : decode cX8_falls 102 = .ok (.ireturn, 1) := by decide +kernel
theorem dX8_odds_0 : decode cX8_odds 0 = .ok (.iload_n 1, 1) := by decide +kernel
theorem dX8_odds_1 : decode cX8_odds 1 = .ok (.iconst 0, 1) := by decide +kernel
theorem dX8_odds_2 : decode cX8_odds 2 = .ok (.bipush 12, 2) := by decide +kernel
theorem dX8_odds_4 : decode cX8_odds 4 = .ok (.invokestatic 58, 3) := by decide +kernel
theorem dX8_odds_7 : decode cX8_odds 7 = .ok (.ifCond .eq 12, 3) := by decide +kernel
theorem dX8_odds_10 : decode cX8_odds 10 = .ok (.iload_n 2, 1) := by decide +kernel
theorem dX8_odds_11 : decode cX8_odds 11 = .ok (.iconst 0, 1) := by decide +kernel
theorem dX8_odds_12 : decode cX8_odds 12 = .ok (.iconst 1, 1) := by decide +kernel
theorem dX8_odds_13 : decode cX8_odds 13 = .ok (.invokestatic 58, 3) := by decide +kernel
theorem dX8_odds_16 : decode cX8_odds 16 = .ok (.ifCond .ne 10, 3) := by decide +kernel
theorem dX8_odds_19 : decode cX8_odds 19 = .ok (.aload_n 0, 1) := by decide +kernel
theorem dX8_odds_20 : decode cX8_odds 20 = .ok (.iconst 0, 1) := by decide +kernel
theorem dX8_odds_21 : decode cX8_odds 21 = .ok (.invokevirtual 106, 3) := by decide +kernel
theorem dX8_odds_24 : decode cX8_odds 24 = .ok (.i2l, 1) := by decide +kernel
theorem dX8_odds_25 : decode cX8_odds 25 = .ok (.lreturn, 1) := by decide +kernel
theorem dX8_odds_26 : decode cX8_odds 26 = .ok (.lconst 1, 1) := by decide +kernel
theorem dX8_odds_27 : decode cX8_odds 27 = .ok (.lstore_n 3, 1) := by decide +kernel
theorem dX8_odds_28 : decode cX8_odds 28 = .ok (.lconst 1, 1) := by decide +kernel
theorem dX8_odds_29 : decode cX8_odds 29 = .ok (.lstore 5, 2) := by decide +kernel
theorem dX8_odds_31 : decode cX8_odds 31 = .ok (.iconst 0, 1) := by decide +kernel
theorem dX8_odds_32 : decode cX8_odds 32 = .ok (.istore 7, 2) := by decide +kernel
theorem dX8_odds_34 : decode cX8_odds 34 = .ok (.iload 7, 2) := by decide +kernel
theorem dX8_odds_36 : decode cX8_odds 36 = .ok (.iload_n 1, 1) := by decide +kernel
theorem dX8_odds_37 : decode cX8_odds 37 = .ok (.if_icmp .ge 33, 3) := by decide +kernel
theorem dX8_odds_40 : decode cX8_odds 40 = .ok (.lload_n 3, 1) := by decide +kernel
theorem dX8_odds_41 : decode cX8_odds 41 = .ok (.ldc2_w 201, 3) := by decide +kernel
theorem dX8_odds_44 : decode cX8_odds 44 = .ok (.aload_n 0, 1) := by decide +kernel
theorem dX8_odds_45 : decode cX8_odds 45 = .ok (.iconst 1, 1) := by decide +kernel
theorem dX8_odds_46 : decode cX8_odds 46 = .ok (.invokevirtual 122, 3) := by decide +kernel
theorem dX8_odds_49 : decode cX8_odds 49 = .ok (.invokestatic 159, 3) := by decide +kernel
theorem dX8_odds_52 : decode cX8_odds 52 = .ok (.i2l, 1) := by decide +kernel
theorem dX8_odds_53 : decode cX8_odds 53 = .ok (.lsub, 1) := by decide +kernel
theorem dX8_odds_54 : decode cX8_odds 54 = .ok (.lmul, 1) := by decide +kernel
theorem dX8_odds_55 : decode cX8_odds 55 = .ok (.lstore_n 3, 1) := by decide +kernel
theorem dX8_odds_56 : decode cX8_odds 56 = .ok (.lload 5, 2) := by decide +kernel
theorem dX8_odds_58 : decode cX8_odds 58 = .ok (.ldc2_w 201, 3) := by decide +kernel
theorem dX8_odds_61 : decode cX8_odds 61 = .ok (.lmul, 1) := by decide +kernel
theorem dX8_odds_62 : decode cX8_odds 62 = .ok (.lstore 5, 2) := by decide +kernel
theorem dX8_odds_64 : decode cX8_odds 64 = .ok (.iinc 7 1, 3) := by decide +kernel
theorem dX8_odds_67 : decode cX8_odds 67 = .ok (.goto (-33), 3) := by decide +kernel
theorem dX8_odds_70 : decode cX8_odds 70 = .ok (.lload_n 3, 1) := by decide +kernel
theorem dX8_odds_71 : decode cX8_odds 71 = .ok (.lstore 7, 2) := by decide +kernel
theorem dX8_odds_73 : decode cX8_odds 73 = .ok (.lload 5, 2) := by decide +kernel
theorem dX8_odds_75 : decode cX8_odds 75 = .ok (.lstore 9, 2) := by decide +kernel
theorem dX8_odds_77 : decode cX8_odds 77 = .ok (.lload 9, 2) := by decide +kernel
theorem dX8_odds_79 : decode cX8_odds 79 = .ok (.lconst 0, 1) := by decide +kernel
theorem dX8_odds_80 : decode cX8_odds 80 = .ok (.lcmp, 1) := by decide +kernel
theorem dX8_odds_81 : decode cX8_odds 81 = .ok (.ifCond .eq 21, 3) := by decide +kernel
theorem dX8_odds_84 : decode cX8_odds 84 = .ok (.lload 7, 2) := by decide +kernel
theorem dX8_odds_86 : decode cX8_odds 86 = .ok (.lload 9, 2) := by decide +kernel
theorem dX8_odds_88 : decode cX8_odds 88 = .ok (.lrem, 1) := by decide +kernel
theorem dX8_odds_89 : decode cX8_odds 89 = .ok (.lstore 11, 2) := by decide +kernel
theorem dX8_odds_91 : decode cX8_odds 91 = .ok (.lload 9, 2) := by decide +kernel
theorem dX8_odds_93 : decode cX8_odds 93 = .ok (.lstore 7, 2) := by decide +kernel
theorem dX8_odds_95 : decode cX8_odds 95 = .ok (.lload 11, 2) := by decide +kernel
theorem dX8_odds_97 : decode cX8_odds 97 = .ok (.lstore 9, 2) := by decide +kernel
theorem dX8_odds_99 : decode cX8_odds 99 = .ok (.goto (-22), 3) := by decide +kernel
theorem dX8_odds_102 : decode cX8_odds 102 = .ok (.iload_n 2, 1) := by decide +kernel
theorem dX8_odds_103 : decode cX8_odds 103 = .ok (.ifCond .ne 10, 3) := by decide +kernel
theorem dX8_odds_106 : decode cX8_odds 106 = .ok (.lload_n 3, 1) := by decide +kernel
theorem dX8_odds_107 : decode cX8_odds 107 = .ok (.lload 7, 2) := by decide +kernel
theorem dX8_odds_109 : decode cX8_odds 109 = .ok (.ldiv, 1) := by decide +kernel
theorem dX8_odds_110 : decode cX8_odds 110 = .ok (.goto 8, 3) := by decide +kernel
theorem dX8_odds_113 : decode cX8_odds 113 = .ok (.lload 5, 2) := by decide +kernel
theorem dX8_odds_115 : decode cX8_odds 115 = .ok (.lload 7, 2) := by decide +kernel
theorem dX8_odds_117 : decode cX8_odds 117 = .ok (.ldiv, 1) := by decide +kernel
theorem dX8_odds_118 : decode cX8_odds 118 = .ok (.lreturn, 1) := by decide +kernel
theorem dX8_seed_0 : decode cX8_seed 0 = .ok (.aload_n 0, 1) := by decide +kernel
theorem dX8_seed_1 : decode cX8_seed 1 = .ok (.getfield 9, 3) := by decide +kernel
theorem dX8_seed_4 : decode cX8_seed 4 = .ok (.iconst 2, 1) := by decide +kernel
theorem dX8_seed_5 : decode cX8_seed 5 = .ok (.iaload, 1) := by decide +kernel
theorem dX8_seed_6 : decode cX8_seed 6 = .ok (.istore_n 2, 1) := by decide +kernel
theorem dX8_seed_7 : decode cX8_seed 7 = .ok (.aload_n 0, 1) := by decide +kernel
theorem dX8_seed_8 : decode cX8_seed 8 = .ok (.getfield 9, 3) := by decide +kernel
theorem dX8_seed_11 : decode cX8_seed 11 = .ok (.iconst 2, 1) := by decide +kernel
theorem dX8_seed_12 : decode cX8_seed 12 = .ok (.iload_n 1, 1) := by decide +kernel
theorem dX8_seed_13 : decode cX8_seed 13 = .ok (.iastore, 1) := by decide +kernel
theorem dX8_seed_14 : decode cX8_seed 14 = .ok (.iload_n 2, 1) := by decide +kernel
theorem dX8_seed_15 : decode cX8_seed 15 = .ok (.ireturn, 1) := by decide +kernel
theorem dX8_feed_0 : decode cX8_feed 0 = .ok (.iload_n 2, 1) := by decide +kernel
theorem dX8_feed_1 : decode cX8_feed 1 = .ok (.iconst 1, 1) := by decide +kernel
theorem dX8_feed_2 : decode cX8_feed 2 = .ok (.iconst 4, 1) := by decide +kernel
theorem dX8_feed_3 : decode cX8_feed 3 = .ok (.invokestatic 58, 3) := by decide +kernel
theorem dX8_feed_6 : decode cX8_feed 6 = .ok (.ifCond .ne 9, 3) := by decide +kernel
theorem dX8_feed_9 : decode cX8_feed 9 = .ok (.aload_n 0, 1) := by decide +kernel
theorem dX8_feed_10 : decode cX8_feed 10 = .ok (.iconst 0, 1) := by decide +kernel
theorem dX8_feed_11 : decode cX8_feed 11 = .ok (.invokevirtual 106, 3) := by decide +kernel
theorem dX8_feed_14 : decode cX8_feed 14 = .ok (.ireturn, 1) := by decide +kernel
theorem dX8_feed_15 : decode cX8_feed 15 = .ok (.aload_n 0, 1) := by decide +kernel
theorem dX8_feed_16 : decode cX8_feed 16 = .ok (.getfield 203, 3) := by decide +kernel
theorem dX8_feed_19 : decode cX8_feed 19 = .ok (.iload_n 2, 1) := by decide +kernel
theorem dX8_feed_20 : decode cX8_feed 20 = .ok (.iadd, 1) := by decide +kernel
theorem dX8_feed_21 : decode cX8_feed 21 = .ok (.bipush 120, 2) := by decide +kernel
theorem dX8_feed_23 : decode cX8_feed 23 = .ok (.if_icmp .le 9, 3) := by decide +kernel
theorem dX8_feed_26 : decode cX8_feed 26 = .ok (.aload_n 0, 1) := by decide +kernel
theorem dX8_feed_27 : decode cX8_feed 27 = .ok (.iconst 1, 1) := by decide +kernel
theorem dX8_feed_28 : decode cX8_feed 28 = .ok (.invokevirtual 106, 3) := by decide +kernel
theorem dX8_feed_31 : decode cX8_feed 31 = .ok (.ireturn, 1) := by decide +kernel
theorem dX8_feed_32 : decode cX8_feed 32 = .ok (.iload_n 2, 1) := by decide +kernel
theorem dX8_feed_33 : decode cX8_feed 33 = .ok (.iconst 1, 1) := by decide +kernel
theorem dX8_feed_34 : decode cX8_feed 34 = .ok (.isub, 1) := by decide +kernel
theorem dX8_feed_35 : decode cX8_feed 35 = .ok (.istore_n 3, 1) := by decide +kernel
theorem dX8_feed_36 : decode cX8_feed 36 = .ok (.iload_n 3, 1) := by decide +kernel
theorem dX8_feed_37 : decode cX8_feed 37 = .ok (.ifCond .lt 38, 3) := by decide +kernel
theorem dX8_feed_40 : decode cX8_feed 40 = .ok (.aload_n 0, 1) := by decide +kernel
theorem dX8_feed_41 : decode cX8_feed 41 = .ok (.getfield 25, 3) := by decide +kernel
theorem dX8_feed_44 : decode cX8_feed 44 = .ok (.aload_n 0, 1) := by decide +kernel
theorem dX8_feed_45 : decode cX8_feed 45 = .ok (.getfield 203, 3) := by decide +kernel
theorem dX8_feed_48 : decode cX8_feed 48 = .ok (.iload_n 1, 1) := by decide +kernel
theorem dX8_feed_49 : decode cX8_feed 49 = .ok (.bipush 8, 2) := by decide +kernel
theorem dX8_feed_51 : decode cX8_feed 51 = .ok (.iload_n 3, 1) := by decide +kernel
theorem dX8_feed_52 : decode cX8_feed 52 = .ok (.imul, 1) := by decide +kernel
theorem dX8_feed_53 : decode cX8_feed 53 = .ok (.ishr, 1) := by decide +kernel
theorem dX8_feed_54 : decode cX8_feed 54 = .ok (.sipush 255, 3) := by decide +kernel
theorem dX8_feed_57 : decode cX8_feed 57 = .ok (.iand, 1) := by decide +kernel
theorem dX8_feed_58 : decode cX8_feed 58 = .ok (.iastore, 1) := by decide +kernel
theorem dX8_feed_59 : decode cX8_feed 59 = .ok (.aload_n 0, 1) := by decide +kernel
theorem dX8_feed_60 : decode cX8_feed 60 = .ok (.dup, 1) := by decide +kernel
theorem dX8_feed_61 : decode cX8_feed 61 = .ok (.getfield 203, 3) := by decide +kernel
theorem dX8_feed_64 : decode cX8_feed 64 = .ok (.iconst 1, 1) := by decide +kernel
theorem dX8_feed_65 : decode cX8_feed 65 = .ok (.iadd, 1) := by decide +kernel
theorem dX8_feed_66 : decode cX8_feed 66 = .ok (.putfield 203, 3) := by decide +kernel
theorem dX8_feed_69 : decode cX8_feed 69 = .ok (.iinc 3 (-1), 3) := by decide +kernel
theorem dX8_feed_72 : decode cX8_feed 72 = .ok (.goto (-36), 3) := by decide +kernel
theorem dX8_feed_75 : decode cX8_feed 75 = .ok (.aload_n 0, 1) := by decide +kernel
theorem dX8_feed_76 : decode cX8_feed 76 = .ok (.getfield 203, 3) := by decide +kernel
theorem dX8_feed_79 : decode cX8_feed 79 = .ok (.ireturn, 1) := by decide +kernel
theorem dX8_wipe_0 : decode cX8_wipe 0 = .ok (.aload_n 0, 1) := by decide +kernel
theorem dX8_wipe_1 : decode cX8_wipe 1 = .ok (.getfield 203, 3) := by decide +kernel
theorem dX8_wipe_4 : decode cX8_wipe 4 = .ok (.istore_n 1, 1) := by decide +kernel
theorem dX8_wipe_5 : decode cX8_wipe 5 = .ok (.aload_n 0, 1) := by decide +kernel
theorem dX8_wipe_6 : decode cX8_wipe 6 = .ok (.iconst 0, 1) := by decide +kernel
theorem dX8_wipe_7 : decode cX8_wipe 7 = .ok (.putfield 203, 3) := by decide +kernel
theorem dX8_wipe_10 : decode cX8_wipe 10 = .ok (.iload_n 1, 1) := by decide +kernel
theorem dX8_wipe_11 : decode cX8_wipe 11 = .ok (.ireturn, 1) := by decide +kernel
theorem dX8_isLetter_0 : decode cX8_isLetter 0 = .ok (.iload_n 0, 1) := by decide +kernel
theorem dX8_isLetter_1 : decode cX8_isLetter 1 = .ok (.bipush 97, 2) := by decide +kernel
theorem dX8_isLetter_3 : decode cX8_isLetter 3 = .ok (.bipush 122, 2) := by decide +kernel
theorem dX8_isLetter_5 : decode cX8_isLetter 5 = .ok (.invokestatic 58, 3) := by decide +kernel
theorem dX8_isLetter_8 : decode cX8_isLetter 8 = .ok (.ireturn, 1) := by decide +kernel
theorem dX8_isDigit_0 : decode cX8_isDigit 0 = .ok (.iload_n 0, 1) := by decide +kernel
theorem dX8_isDigit_1 : decode cX8_isDigit 1 = .ok (.bipush 48, 2) := by decide +kernel
theorem dX8_isDigit_3 : decode cX8_isDigit 3 = .ok (.bipush 57, 2) := by decide +kernel
theorem dX8_isDigit_5 : decode cX8_isDigit 5 = .ok (.invokestatic 58, 3) := by decide +kernel
theorem dX8_isDigit_8 : decode cX8_isDigit 8 = .ok (.ireturn, 1) := by decide +kernel
theorem dX8_nextToken_0 : decode cX8_nextToken 0 = .ok (.aload_n 0, 1) := by decide +kernel
theorem dX8_nextToken_1 : decode cX8_nextToken 1 = .ok (.aload_n 0, 1) := by decide +kernel
theorem dX8_nextToken_2 : decode cX8_nextToken 2 = .ok (.getfield 206, 3) := by decide +kernel
theorem dX8_nextToken_5 : decode cX8_nextToken 5 = .ok (.putfield 209, 3) := by decide +kernel
theorem dX8_nextToken_8 : decode cX8_nextToken 8 = .ok (.aload_n 0, 1) := by decide +kernel
theorem dX8_nextToken_9 : decode cX8_nextToken 9 = .ok (.getfield 209, 3) := by decide +kernel
theorem dX8_nextToken_12 : decode cX8_nextToken 12 = .ok (.aload_n 0, 1) := by decide +kernel
theorem dX8_nextToken_13 : decode cX8_nextToken 13 = .ok (.getfield 203, 3) := by decide +kernel
theorem dX8_nextToken_16 : decode cX8_nextToken 16 = .ok (.if_icmp .ge 30, 3) := by decide +kernel
theorem dX8_nextToken_19 : decode cX8_nextToken 19 = .ok (.aload_n 0, 1) := by decide +kernel
theorem dX8_nextToken_20 : decode cX8_nextToken 20 = .ok (.getfield 25, 3) := by decide +kernel
theorem dX8_nextToken_23 : decode cX8_nextToken 23 = .ok (.aload_n 0, 1) := by decide +kernel
theorem dX8_nextToken_24 : decode cX8_nextToken 24 = .ok (.getfield 209, 3) := by decide +kernel
theorem dX8_nextToken_27 : decode cX8_nextToken 27 = .ok (.iaload, 1) := by decide +kernel
theorem dX8_nextToken_28 : decode cX8_nextToken 28 = .ok (.bipush 32, 2) := by decide +kernel
theorem dX8_nextToken_30 : decode cX8_nextToken 30 = .ok (.if_icmp .ne 16, 3) := by decide +kernel
theorem dX8_nextToken_33 : decode cX8_nextToken 33 = .ok (.aload_n 0, 1) := by decide +kernel
theorem dX8_nextToken_34 : decode cX8_nextToken 34 = .ok (.dup, 1) := by decide +kernel
theorem dX8_nextToken_35 : decode cX8_nextToken 35 = .ok (.getfield 209, 3) := by decide +kernel
theorem dX8_nextToken_38 : decode cX8_nextToken 38 = .ok (.iconst 1, 1) := by decide +kernel
theorem dX8_nextToken_39 : decode cX8_nextToken 39 = .ok (.iadd, 1) := by decide +kernel
theorem dX8_nextToken_40 : decode cX8_nextToken 40 = .ok (.putfield 209, 3) := by decide +kernel
theorem dX8_nextToken_43 : decode cX8_nextToken 43 = .ok (.goto (-35), 3) := by decide +kernel
theorem dX8_nextToken_46 : decode cX8_nextToken 46 = .ok (.aload_n 0, 1) := by decide +kernel
theorem dX8_nextToken_47 : decode cX8_nextToken 47 = .ok (.aload_n 0, 1) := by decide +kernel
theorem dX8_nextToken_48 : decode cX8_nextToken 48 = .ok (.getfield 209, 3) := by decide +kernel
theorem dX8_nextToken_51 : decode cX8_nextToken 51 = .ok (.putfield 206, 3) := by decide +kernel
theorem dX8_nextToken_54 : decode cX8_nextToken 54 = .ok (.aload_n 0, 1) := by decide +kernel
theorem dX8_nextToken_55 : decode cX8_nextToken 55 = .ok (.lconst 0, 1) := by decide +kernel
theorem dX8_nextToken_56 : decode cX8_nextToken 56 = .ok (.putfield 212, 3) := by decide +kernel
theorem dX8_nextToken_59 : decode cX8_nextToken 59 = .ok (.aload_n 0, 1) := by decide +kernel
theorem dX8_nextToken_60 : decode cX8_nextToken 60 = .ok (.getfield 209, 3) := by decide +kernel
theorem dX8_nextToken_63 : decode cX8_nextToken 63 = .ok (.aload_n 0, 1) := by decide +kernel
theorem dX8_nextToken_64 : decode cX8_nextToken 64 = .ok (.getfield 203, 3) := by decide +kernel
theorem dX8_nextToken_67 : decode cX8_nextToken 67 = .ok (.if_icmp .ne 11, 3) := by decide +kernel
theorem dX8_nextToken_70 : decode cX8_nextToken 70 = .ok (.aload_n 0, 1) := by decide +kernel
theorem dX8_nextToken_71 : decode cX8_nextToken 71 = .ok (.iconst 0, 1) := by decide +kernel
theorem dX8_nextToken_72 : decode cX8_nextToken 72 = .ok (.putfield 216, 3) := by decide +kernel
theorem dX8_nextToken_75 : decode cX8_nextToken 75 = .ok (.goto 262, 3) := by decide +kernel
theorem dX8_nextToken_78 : decode cX8_nextToken 78 = .ok (.aload_n 0, 1) := by decide +kernel
theorem dX8_nextToken_79 : decode cX8_nextToken 79 = .ok (.getfield 25, 3) := by decide +kernel
theorem dX8_nextToken_82 : decode cX8_nextToken 82 = .ok (.aload_n 0, 1) := by decide +kernel
theorem dX8_nextToken_83 : decode cX8_nextToken 83 = .ok (.getfield 209, 3) := by decide +kernel
theorem dX8_nextToken_86 : decode cX8_nextToken 86 = .ok (.iaload, 1) := by decide +kernel
theorem dX8_nextToken_87 : decode cX8_nextToken 87 = .ok (.invokestatic 219, 3) := by decide +kernel
theorem dX8_nextToken_90 : decode cX8_nextToken 90 = .ok (.ifCond .eq 92, 3) := by decide +kernel
theorem dX8_nextToken_93 : decode cX8_nextToken 93 = .ok (.aload_n 0, 1) := by decide +kernel
theorem dX8_nextToken_94 : decode cX8_nextToken 94 = .ok (.iconst 1, 1) := by decide +kernel
theorem dX8_nextToken_95 : decode cX8_nextToken 95 = .ok (.putfield 216, 3) := by decide +kernel
theorem dX8_nextToken_98 : decode cX8_nextToken 98 = .ok (.aload_n 0, 1) := by decide +kernel
theorem dX8_nextToken_99 : decode cX8_nextToken 99 = .ok (.getfield 206, 3) := by decide +kernel
theorem dX8_nextToken_102 : decode cX8_nextToken 102 = .ok (.aload_n 0, 1) := by decide +kernel
theorem dX8_nextToken_103 : decode cX8_nextToken 103 = .ok (.getfield 203, 3) := by decide +kernel
theorem dX8_nextToken_106 : decode cX8_nextToken 106 = .ok (.if_icmp .ge 231, 3) := by decide +kernel
theorem dX8_nextToken_109 : decode cX8_nextToken 109 = .ok (.aload_n 0, 1) := by decide +kernel
theorem dX8_nextToken_110 : decode cX8_nextToken 110 = .ok (.getfield 25, 3) := by decide +kernel
theorem dX8_nextToken_113 : decode cX8_nextToken 113 = .ok (.aload_n 0, 1) := by decide +kernel
theorem dX8_nextToken_114 : decode cX8_nextToken 114 = .ok (.getfield 206, 3) := by decide +kernel
theorem dX8_nextToken_117 : decode cX8_nextToken 117 = .ok (.iaload, 1) := by decide +kernel
theorem dX8_nextToken_118 : decode cX8_nextToken 118 = .ok (.invokestatic 219, 3) := by decide +kernel
theorem dX8_nextToken_121 : decode cX8_nextToken 121 = .ok (.ifCond .eq 216, 3) := by decide +kernel
theorem dX8_nextToken_124 : decode cX8_nextToken 124 = .ok (.aload_n 0, 1) := by decide +kernel
theorem dX8_nextToken_125 : decode cX8_nextToken 125 = .ok (.aload_n 0, 1) := by decide +kernel
theorem dX8_nextToken_126 : decode cX8_nextToken 126 = .ok (.getfield 212, 3) := by decide +kernel
theorem dX8_nextToken_129 : decode cX8_nextToken 129 = .ok (.ldc2_w 222, 3) := by decide +kernel
theorem dX8_nextToken_132 : decode cX8_nextToken 132 = .ok (.lcmp, 1) := by decide +kernel
theorem dX8_nextToken_133 : decode cX8_nextToken 133 = .ok (.ifCond .le 10, 3) := by decide +kernel
theorem dX8_nextToken_136 : decode cX8_nextToken 136 = .ok (.aload_n 0, 1) := by decide +kernel
theorem dX8_nextToken_137 : decode cX8_nextToken 137 = .ok (.getfield 212, 3) := by decide +kernel
theorem dX8_nextToken_140 : decode cX8_nextToken 140 = .ok (.goto 26, 3) := by decide +kernel
theorem dX8_nextToken_143 : decode cX8_nextToken 143 = .ok (.aload_n 0, 1) := by decide +kernel
theorem dX8_nextToken_144 : decode cX8_nextToken 144 = .ok (.getfield 212, 3) := by decide +kernel
theorem dX8_nextToken_147 : decode cX8_nextToken 147 = .ok (.ldc2_w 224, 3) := by decide +kernel
theorem dX8_nextToken_150 : decode cX8_nextToken 150 = .ok (.lmul, 1) := by decide +kernel
theorem dX8_nextToken_151 : decode cX8_nextToken 151 = .ok (.aload_n 0, 1) := by decide +kernel
theorem dX8_nextToken_152 : decode cX8_nextToken 152 = .ok (.getfield 25, 3) := by decide +kernel
theorem dX8_nextToken_155 : decode cX8_nextToken 155 = .ok (.aload_n 0, 1) := by decide +kernel
theorem dX8_nextToken_156 : decode cX8_nextToken 156 = .ok (.getfield 206, 3) := by decide +kernel
theorem dX8_nextToken_159 : decode cX8_nextToken 159 = .ok (.iaload, 1) := by decide +kernel
theorem dX8_nextToken_160 : decode cX8_nextToken 160 = .ok (.i2l, 1) := by decide +kernel
theorem dX8_nextToken_161 : decode cX8_nextToken 161 = .ok (.ladd, 1) := by decide +kernel
theorem dX8_nextToken_162 : decode cX8_nextToken 162 = .ok (.ldc2_w 226, 3) := by decide +kernel
theorem dX8_nextToken_165 : decode cX8_nextToken 165 = .ok (.lsub, 1) := by decide +kernel
theorem dX8_nextToken_166 : decode cX8_nextToken 166 = .ok (.putfield 212, 3) := by decide +kernel
theorem dX8_nextToken_169 : decode cX8_nextToken 169 = .ok (.aload_n 0, 1) := by decide +kernel
theorem dX8_nextToken_170 : decode cX8_nextToken 170 = .ok (.dup, 1) := by decide +kernel
theorem dX8_nextToken_171 : decode cX8_nextToken 171 = .ok (.getfield 206, 3) := by decide +kernel
theorem dX8_nextToken_174 : decode cX8_nextToken 174 = .ok (.iconst 1, 1) := by decide +kernel
theorem dX8_nextToken_175 : decode cX8_nextToken 175 = .ok (.iadd, 1) := by decide +kernel
theorem dX8_nextToken_176 : decode cX8_nextToken 176 = .ok (.putfield 206, 3) := by decide +kernel
theorem dX8_nextToken_179 : decode cX8_nextToken 179 = .ok (.goto (-81), 3) := by decide +kernel
theorem dX8_nextToken_182 : decode cX8_nextToken 182 = .ok (.aload_n 0, 1) := by decide +kernel
theorem dX8_nextToken_183 : decode cX8_nextToken 183 = .ok (.getfield 25, 3) := by decide +kernel
theorem dX8_nextToken_186 : decode cX8_nextToken 186 = .ok (.aload_n 0, 1) := by decide +kernel
theorem dX8_nextToken_187 : decode cX8_nextToken 187 = .ok (.getfield 209, 3) := by decide +kernel
theorem dX8_nextToken_190 : decode cX8_nextToken 190 = .ok (.iaload, 1) := by decide +kernel
theorem dX8_nextToken_191 : decode cX8_nextToken 191 = .ok (.invokestatic 228, 3) := by decide +kernel
theorem dX8_nextToken_194 : decode cX8_nextToken 194 = .ok (.ifCond .eq 110, 3) := by decide +kernel
theorem dX8_nextToken_197 : decode cX8_nextToken 197 = .ok (.aload_n 0, 1) := by decide +kernel
theorem dX8_nextToken_198 : decode cX8_nextToken 198 = .ok (.getfield 206, 3) := by decide +kernel
theorem dX8_nextToken_201 : decode cX8_nextToken 201 = .ok (.aload_n 0, 1) := by decide +kernel
theorem dX8_nextToken_202 : decode cX8_nextToken 202 = .ok (.getfield 203, 3) := by decide +kernel
theorem dX8_nextToken_205 : decode cX8_nextToken 205 = .ok (.if_icmp .ge 76, 3) := by decide +kernel
theorem dX8_nextToken_208 : decode cX8_nextToken 208 = .ok (.aload_n 0, 1) := by decide +kernel
theorem dX8_nextToken_209 : decode cX8_nextToken 209 = .ok (.getfield 25, 3) := by decide +kernel
theorem dX8_nextToken_212 : decode cX8_nextToken 212 = .ok (.aload_n 0, 1) := by decide +kernel
theorem dX8_nextToken_213 : decode cX8_nextToken 213 = .ok (.getfield 206, 3) := by decide +kernel
theorem dX8_nextToken_216 : decode cX8_nextToken 216 = .ok (.iaload, 1) := by decide +kernel
theorem dX8_nextToken_217 : decode cX8_nextToken 217 = .ok (.invokestatic 228, 3) := by decide +kernel
theorem dX8_nextToken_220 : decode cX8_nextToken 220 = .ok (.ifCond .eq 61, 3) := by decide +kernel
theorem dX8_nextToken_223 : decode cX8_nextToken 223 = .ok (.aload_n 0, 1) := by decide +kernel
theorem dX8_nextToken_224 : decode cX8_nextToken 224 = .ok (.aload_n 0, 1) := by decide +kernel
theorem dX8_nextToken_225 : decode cX8_nextToken 225 = .ok (.getfield 212, 3) := by decide +kernel
theorem dX8_nextToken_228 : decode cX8_nextToken 228 = .ok (.ldc2_w 231, 3) := by decide +kernel
theorem dX8_nextToken_231 : decode cX8_nextToken 231 = .ok (.lcmp, 1) := by decide +kernel
theorem dX8_nextToken_232 : decode cX8_nextToken 232 = .ok (.ifCond .le 10, 3) := by decide +kernel
theorem dX8_nextToken_235 : decode cX8_nextToken 235 = .ok (.aload_n 0, 1) := by decide +kernel
theorem dX8_nextToken_236 : decode cX8_nextToken 236 = .ok (.getfield 212, 3) := by decide +kernel
theorem dX8_nextToken_239 : decode cX8_nextToken 239 = .ok (.goto 26, 3) := by decide +kernel
theorem dX8_nextToken_242 : decode cX8_nextToken 242 = .ok (.aload_n 0, 1) := by decide +kernel
theorem dX8_nextToken_243 : decode cX8_nextToken 243 = .ok (.getfield 212, 3) := by decide +kernel
theorem dX8_nextToken_246 : decode cX8_nextToken 246 = .ok (.ldc2_w 233, 3) := by decide +kernel
theorem dX8_nextToken_249 : decode cX8_nextToken 249 = .ok (.lmul, 1) := by decide +kernel
theorem dX8_nextToken_250 : decode cX8_nextToken 250 = .ok (.aload_n 0, 1) := by decide +kernel
theorem dX8_nextToken_251 : decode cX8_nextToken 251 = .ok (.getfield 25, 3) := by decide +kernel
theorem dX8_nextToken_254 : decode cX8_nextToken 254 = .ok (.aload_n 0, 1) := by decide +kernel
theorem dX8_nextToken_255 : decode cX8_nextToken 255 = .ok (.getfield 206, 3) := by decide +kernel
theorem dX8_nextToken_258 : decode cX8_nextToken 258 = .ok (.iaload, 1) := by decide +kernel
theorem dX8_nextToken_259 : decode cX8_nextToken 259 = .ok (.i2l, 1) := by decide +kernel
theorem dX8_nextToken_260 : decode cX8_nextToken 260 = .ok (.ladd, 1) := by decide +kernel
theorem dX8_nextToken_261 : decode cX8_nextToken 261 = .ok (.ldc2_w 235, 3) := by decide +kernel
theorem dX8_nextToken_264 : decode cX8_nextToken 264 = .ok (.lsub, 1) := by decide +kernel
theorem dX8_nextToken_265 : decode cX8_nextToken 265 = .ok (.putfield 212, 3) := by decide +kernel
theorem dX8_nextToken_268 : decode cX8_nextToken 268 = .ok (.aload_n 0, 1) := by decide +kernel
theorem dX8_nextToken_269 : decode cX8_nextToken 269 = .ok (.dup, 1) := by decide +kernel
theorem dX8_nextToken_270 : decode cX8_nextToken 270 = .ok (.getfield 206, 3) := by decide +kernel
theorem dX8_nextToken_273 : decode cX8_nextToken 273 = .ok (.iconst 1, 1) := by decide +kernel
theorem dX8_nextToken_274 : decode cX8_nextToken 274 = .ok (.iadd, 1) := by decide +kernel
theorem dX8_nextToken_275 : decode cX8_nextToken 275 = .ok (.putfield 206, 3) := by decide +kernel
theorem dX8_nextToken_278 : decode cX8_nextToken 278 = .ok (.goto (-81), 3) := by decide +kernel
theorem dX8_nextToken_281 : decode cX8_nextToken 281 = .ok (.aload_n 0, 1) := by decide +kernel
theorem dX8_nextToken_282 : decode cX8_nextToken 282 = .ok (.aload_n 0, 1) := by decide +kernel
theorem dX8_nextToken_283 : decode cX8_nextToken 283 = .ok (.getfield 212, 3) := by decide +kernel
theorem dX8_nextToken_286 : decode cX8_nextToken 286 = .ok (.ldc2_w 231, 3) := by decide +kernel
theorem dX8_nextToken_289 : decode cX8_nextToken 289 = .ok (.lcmp, 1) := by decide +kernel
theorem dX8_nextToken_290 : decode cX8_nextToken 290 = .ok (.ifCond .le 7, 3) := by decide +kernel
theorem dX8_nextToken_293 : decode cX8_nextToken 293 = .ok (.iconst 4, 1) := by decide +kernel
theorem dX8_nextToken_294 : decode cX8_nextToken 294 = .ok (.goto 4, 3) := by decide +kernel
theorem dX8_nextToken_297 : decode cX8_nextToken 297 = .ok (.iconst 2, 1) := by decide +kernel
theorem dX8_nextToken_298 : decode cX8_nextToken 298 = .ok (.putfield 216, 3) := by decide +kernel
theorem dX8_nextToken_301 : decode cX8_nextToken 301 = .ok (.goto 36, 3) := by decide +kernel
theorem dX8_nextToken_304 : decode cX8_nextToken 304 = .ok (.aload_n 0, 1) := by decide +kernel
theorem dX8_nextToken_305 : decode cX8_nextToken 305 = .ok (.aload_n 0, 1) := by decide +kernel
theorem dX8_nextToken_306 : decode cX8_nextToken 306 = .ok (.getfield 25, 3) := by decide +kernel
theorem dX8_nextToken_309 : decode cX8_nextToken 309 = .ok (.aload_n 0, 1) := by decide +kernel
theorem dX8_nextToken_310 : decode cX8_nextToken 310 = .ok (.getfield 209, 3) := by decide +kernel
theorem dX8_nextToken_313 : decode cX8_nextToken 313 = .ok (.iaload, 1) := by decide +kernel
theorem dX8_nextToken_314 : decode cX8_nextToken 314 = .ok (.bipush 59, 2) := by decide +kernel
theorem dX8_nextToken_316 : decode cX8_nextToken 316 = .ok (.if_icmp .ne 7, 3) := by decide +kernel
theorem dX8_nextToken_319 : decode cX8_nextToken 319 = .ok (.iconst 3, 1) := by decide +kernel
theorem dX8_nextToken_320 : decode cX8_nextToken 320 = .ok (.goto 4, 3) := by decide +kernel
theorem dX8_nextToken_323 : decode cX8_nextToken 323 = .ok (.iconst 4, 1) := by decide +kernel
theorem dX8_nextToken_324 : decode cX8_nextToken 324 = .ok (.putfield 216, 3) := by decide +kernel
theorem dX8_nextToken_327 : decode cX8_nextToken 327 = .ok (.aload_n 0, 1) := by decide +kernel
theorem dX8_nextToken_328 : decode cX8_nextToken 328 = .ok (.dup, 1) := by decide +kernel
theorem dX8_nextToken_329 : decode cX8_nextToken 329 = .ok (.getfield 206, 3) := by decide +kernel
theorem dX8_nextToken_332 : decode cX8_nextToken 332 = .ok (.iconst 1, 1) := by decide +kernel
theorem dX8_nextToken_333 : decode cX8_nextToken 333 = .ok (.iadd, 1) := by decide +kernel
theorem dX8_nextToken_334 : decode cX8_nextToken 334 = .ok (.putfield 206, 3) := by decide +kernel
theorem dX8_nextToken_337 : decode cX8_nextToken 337 = .ok (.return_, 1) := by decide +kernel
theorem dX8_wordOf_0 : decode cX8_wordOf 0 = .ok (.iconst (-1), 1) := by decide +kernel
theorem dX8_wordOf_1 : decode cX8_wordOf 1 = .ok (.istore_n 2, 1) := by decide +kernel
theorem dX8_wordOf_2 : decode cX8_wordOf 2 = .ok (.iconst 0, 1) := by decide +kernel
theorem dX8_wordOf_3 : decode cX8_wordOf 3 = .ok (.istore_n 3, 1) := by decide +kernel
theorem dX8_wordOf_4 : decode cX8_wordOf 4 = .ok (.iload_n 3, 1) := by decide +kernel
theorem dX8_wordOf_5 : decode cX8_wordOf 5 = .ok (.aload_n 1, 1) := by decide +kernel
theorem dX8_wordOf_6 : decode cX8_wordOf 6 = .ok (.arraylength, 1) := by decide +kernel
theorem dX8_wordOf_7 : decode cX8_wordOf 7 = .ok (.bipush 8, 2) := by decide +kernel
theorem dX8_wordOf_9 : decode cX8_wordOf 9 = .ok (.idiv, 1) := by decide +kernel
theorem dX8_wordOf_10 : decode cX8_wordOf 10 = .ok (.if_icmp .ge 94, 3) := by decide +kernel
theorem dX8_wordOf_13 : decode cX8_wordOf 13 = .ok (.aload_n 0, 1) := by decide +kernel
theorem dX8_wordOf_14 : decode cX8_wordOf 14 = .ok (.getfield 216, 3) := by decide +kernel
theorem dX8_wordOf_17 : decode cX8_wordOf 17 = .ok (.iconst 1, 1) := by decide +kernel
theorem dX8_wordOf_18 : decode cX8_wordOf 18 = .ok (.if_icmp .ne 86, 3) := by decide +kernel
theorem dX8_wordOf_21 : decode cX8_wordOf 21 = .ok (.lconst 0, 1) := by decide +kernel
theorem dX8_wordOf_22 : decode cX8_wordOf 22 = .ok (.lstore 4, 2) := by decide +kernel
theorem dX8_wordOf_24 : decode cX8_wordOf 24 = .ok (.iconst 0, 1) := by decide +kernel
theorem dX8_wordOf_25 : decode cX8_wordOf 25 = .ok (.istore 6, 2) := by decide +kernel
theorem dX8_wordOf_27 : decode cX8_wordOf 27 = .ok (.iload 6, 2) := by decide +kernel
theorem dX8_wordOf_29 : decode cX8_wordOf 29 = .ok (.bipush 8, 2) := by decide +kernel
theorem dX8_wordOf_31 : decode cX8_wordOf 31 = .ok (.if_icmp .ge 51, 3) := by decide +kernel
theorem dX8_wordOf_34 : decode cX8_wordOf 34 = .ok (.aload_n 1, 1) := by decide +kernel
theorem dX8_wordOf_35 : decode cX8_wordOf 35 = .ok (.bipush 8, 2) := by decide +kernel
theorem dX8_wordOf_37 : decode cX8_wordOf 37 = .ok (.iload_n 3, 1) := by decide +kernel
theorem dX8_wordOf_38 : decode cX8_wordOf 38 = .ok (.imul, 1) := by decide +kernel
theorem dX8_wordOf_39 : decode cX8_wordOf 39 = .ok (.iload 6, 2) := by decide +kernel
theorem dX8_wordOf_41 : decode cX8_wordOf 41 = .ok (.iadd, 1) := by decide +kernel
theorem dX8_wordOf_42 : decode cX8_wordOf 42 = .ok (.caload, 1) := by decide +kernel
theorem dX8_wordOf_43 : decode cX8_wordOf 43 = .ok (.bipush 32, 2) := by decide +kernel
theorem dX8_wordOf_45 : decode cX8_wordOf 45 = .ok (.if_icmp .ne 8, 3) := by decide +kernel
theorem dX8_wordOf_48 : decode cX8_wordOf 48 = .ok (.lload 4, 2) := by decide +kernel
theorem dX8_wordOf_50 : decode cX8_wordOf 50 = .ok (.goto 24, 3) := by decide +kernel
theorem dX8_wordOf_53 : decode cX8_wordOf 53 = .ok (.lload 4, 2) := by decide +kernel
theorem dX8_wordOf_55 : decode cX8_wordOf 55 = .ok (.ldc2_w 224, 3) := by decide +kernel
theorem dX8_wordOf_58 : decode cX8_wordOf 58 = .ok (.lmul, 1) := by decide +kernel
theorem dX8_wordOf_59 : decode cX8_wordOf 59 = .ok (.aload_n 1, 1) := by decide +kernel
theorem dX8_wordOf_60 : decode cX8_wordOf 60 = .ok (.bipush 8, 2) := by decide +kernel
theorem dX8_wordOf_62 : decode cX8_wordOf 62 = .ok (.iload_n 3, 1) := by decide +kernel
theorem dX8_wordOf_63 : decode cX8_wordOf 63 = .ok (.imul, 1) := by decide +kernel
theorem dX8_wordOf_64 : decode cX8_wordOf 64 = .ok (.iload 6, 2) := by decide +kernel
theorem dX8_wordOf_66 : decode cX8_wordOf 66 = .ok (.iadd, 1) := by decide +kernel
theorem dX8_wordOf_67 : decode cX8_wordOf 67 = .ok (.caload, 1) := by decide +kernel
theorem dX8_wordOf_68 : decode cX8_wordOf 68 = .ok (.i2l, 1) := by decide +kernel
theorem dX8_wordOf_69 : decode cX8_wordOf 69 = .ok (.ladd, 1) := by decide +kernel
theorem dX8_wordOf_70 : decode cX8_wordOf 70 = .ok (.ldc2_w 226, 3) := by decide +kernel
theorem dX8_wordOf_73 : decode cX8_wordOf 73 = .ok (.lsub, 1) := by decide +kernel
theorem dX8_wordOf_74 : decode cX8_wordOf 74 = .ok (.lstore 4, 2) := by decide +kernel
theorem dX8_wordOf_76 : decode cX8_wordOf 76 = .ok (.iinc 6 1, 3) := by decide +kernel
theorem dX8_wordOf_79 : decode cX8_wordOf 79 = .ok (.goto (-52), 3) := by decide +kernel
theorem dX8_wordOf_82 : decode cX8_wordOf 82 = .ok (.lload 4, 2) := by decide +kernel
theorem dX8_wordOf_84 : decode cX8_wordOf 84 = .ok (.aload_n 0, 1) := by decide +kernel
theorem dX8_wordOf_85 : decode cX8_wordOf 85 = .ok (.getfield 212, 3) := by decide +kernel
theorem dX8_wordOf_88 : decode cX8_wordOf 88 = .ok (.lcmp, 1) := by decide +kernel
theorem dX8_wordOf_89 : decode cX8_wordOf 89 = .ok (.ifCond .ne 7, 3) := by decide +kernel
theorem dX8_wordOf_92 : decode cX8_wordOf 92 = .ok (.iload_n 3, 1) := by decide +kernel
theorem dX8_wordOf_93 : decode cX8_wordOf 93 = .ok (.goto 4, 3) := by decide +kernel
theorem dX8_wordOf_96 : decode cX8_wordOf 96 = .ok (.iload_n 2, 1) := by decide +kernel
theorem dX8_wordOf_97 : decode cX8_wordOf 97 = .ok (.istore_n 2, 1) := by decide +kernel
theorem dX8_wordOf_98 : decode cX8_wordOf 98 = .ok (.iinc 3 1, 3) := by decide +kernel
theorem dX8_wordOf_101 : decode cX8_wordOf 101 = .ok (.goto (-97), 3) := by decide +kernel
theorem dX8_wordOf_104 : decode cX8_wordOf 104 = .ok (.iload_n 2, 1) := by decide +kernel
theorem dX8_wordOf_105 : decode cX8_wordOf 105 = .ok (.ireturn, 1) := by decide +kernel
theorem dX8_takesNumber_0 : decode cX8_takesNumber 0 = .ok (.aload_n 0, 1) := by decide +kernel
theorem dX8_takesNumber_1 : decode cX8_takesNumber 1 = .ok (.getfield 216, 3) := by decide +kernel
theorem dX8_takesNumber_4 : decode cX8_takesNumber 4 = .ok (.iconst 2, 1) := by decide +kernel
theorem dX8_takesNumber_5 : decode cX8_takesNumber 5 = .ok (.if_icmp .ne 24, 3) := by decide +kernel
theorem dX8_takesNumber_8 : decode cX8_takesNumber 8 = .ok (.aload_n 0, 1) := by decide +kernel
theorem dX8_takesNumber_9 : decode cX8_takesNumber 9 = .ok (.getfield 212, 3) := by decide +kernel
theorem dX8_takesNumber_12 : decode cX8_takesNumber 12 = .ok (.l2i, 1) := by decide +kernel
theorem dX8_takesNumber_13 : decode cX8_takesNumber 13 = .ok (.iload_n 1, 1) := by decide +kernel
theorem dX8_takesNumber_14 : decode cX8_takesNumber 14 = .ok (.iload_n 2, 1) := by decide +kernel
theorem dX8_takesNumber_15 : decode cX8_takesNumber 15 = .ok (.invokestatic 58, 3) := by decide +kernel
theorem dX8_takesNumber_18 : decode cX8_takesNumber 18 = .ok (.ifCond .eq 11, 3) := by decide +kernel
theorem dX8_takesNumber_21 : decode cX8_takesNumber 21 = .ok (.aload_n 0, 1) := by decide +kernel
theorem dX8_takesNumber_22 : decode cX8_takesNumber 22 = .ok (.getfield 212, 3) := by decide +kernel
theorem dX8_takesNumber_25 : decode cX8_takesNumber 25 = .ok (.l2i, 1) := by decide +kernel
theorem dX8_takesNumber_26 : decode cX8_takesNumber 26 = .ok (.goto 4, 3) := by decide +kernel
theorem dX8_takesNumber_29 : decode cX8_takesNumber 29 = .ok (.iconst (-1), 1) := by decide +kernel
theorem dX8_takesNumber_30 : decode cX8_takesNumber 30 = .ok (.istore_n 3, 1) := by decide +kernel
theorem dX8_takesNumber_31 : decode cX8_takesNumber 31 = .ok (.iload_n 3, 1) := by decide +kernel
theorem dX8_takesNumber_32 : decode cX8_takesNumber 32 = .ok (.ifCond .lt 7, 3) := by decide +kernel
theorem dX8_takesNumber_35 : decode cX8_takesNumber 35 = .ok (.aload_n 0, 1) := by decide +kernel
theorem dX8_takesNumber_36 : decode cX8_takesNumber 36 = .ok (.invokevirtual 237, 3) := by decide +kernel
theorem dX8_takesNumber_39 : decode cX8_takesNumber 39 = .ok (.iload_n 3, 1) := by decide +kernel
theorem dX8_takesNumber_40 : decode cX8_takesNumber 40 = .ok (.ireturn, 1) := by decide +kernel
theorem dX8_readsThing_0 : decode cX8_readsThing 0 = .ok (.aload_n 0, 1) := by decide +kernel
theorem dX8_readsThing_1 : decode cX8_readsThing 1 = .ok (.getfield 9, 3) := by decide +kernel
theorem dX8_readsThing_4 : decode cX8_readsThing 4 = .ok (.iconst 1, 1) := by decide +kernel
theorem dX8_readsThing_5 : decode cX8_readsThing 5 = .ok (.iaload, 1) := by decide +kernel
theorem dX8_readsThing_6 : decode cX8_readsThing 6 = .ok (.bipush 8, 2) := by decide +kernel
theorem dX8_readsThing_8 : decode cX8_readsThing 8 = .ok (.if_icmp .ne 5, 3) := by decide +kernel
theorem dX8_readsThing_11 : decode cX8_readsThing 11 = .ok (.iconst 0, 1) := by decide +kernel
theorem dX8_readsThing_12 : decode cX8_readsThing 12 = .ok (.ireturn, 1) := by decide +kernel
theorem dX8_readsThing_13 : decode cX8_readsThing 13 = .ok (.aload_n 0, 1) := by decide +kernel
theorem dX8_readsThing_14 : decode cX8_readsThing 14 = .ok (.getfield 9, 3) := by decide +kernel
theorem dX8_readsThing_17 : decode cX8_readsThing 17 = .ok (.iconst 1, 1) := by decide +kernel
theorem dX8_readsThing_18 : decode cX8_readsThing 18 = .ok (.iaload, 1) := by decide +kernel
theorem dX8_readsThing_19 : decode cX8_readsThing 19 = .ok (.istore_n 2, 1) := by decide +kernel
theorem dX8_readsThing_20 : decode cX8_readsThing 20 = .ok (.aload_n 0, 1) := by decide +kernel
theorem dX8_readsThing_21 : decode cX8_readsThing 21 = .ok (.iload_n 1, 1) := by decide +kernel
theorem dX8_readsThing_22 : decode cX8_readsThing 22 = .ok (.iconst 0, 1) := by decide +kernel
theorem dX8_readsThing_23 : decode cX8_readsThing 23 = .ok (.invokevirtual 112, 3) := by decide +kernel
theorem dX8_readsThing_26 : decode cX8_readsThing 26 = .ok (.aload_n 0, 1) := by decide +kernel
theorem dX8_readsThing_27 : decode cX8_readsThing 27 = .ok (.invokevirtual 237, 3) := by decide +kernel
theorem dX8_readsThing_30 : decode cX8_readsThing 30 = .ok (.iconst 0, 1) := by decide +kernel
theorem dX8_readsThing_31 : decode cX8_readsThing 31 = .ok (.istore_n 3, 1) := by decide +kernel
theorem dX8_readsThing_32 : decode cX8_readsThing 32 = .ok (.iload_n 3, 1) := by decide +kernel
theorem dX8_readsThing_33 : decode cX8_readsThing 33 = .ok (.iconst 2, 1) := by decide +kernel
theorem dX8_readsThing_34 : decode cX8_readsThing 34 = .ok (.if_icmp .ge 60, 3) := by decide +kernel
theorem dX8_readsThing_37 : decode cX8_readsThing 37 = .ok (.aload_n 0, 1) := by decide +kernel
theorem dX8_readsThing_38 : decode cX8_readsThing 38 = .ok (.aload_n 0, 1) := by decide +kernel
theorem dX8_readsThing_39 : decode cX8_readsThing 39 = .ok (.getfield 32, 3) := by decide +kernel
theorem dX8_readsThing_42 : decode cX8_readsThing 42 = .ok (.invokevirtual 240, 3) := by decide +kernel
theorem dX8_readsThing_45 : decode cX8_readsThing 45 = .ok (.iload_n 3, 1) := by decide +kernel
theorem dX8_readsThing_46 : decode cX8_readsThing 46 = .ok (.if_icmp .ne 42, 3) := by decide +kernel
theorem dX8_readsThing_49 : decode cX8_readsThing 49 = .ok (.aload_n 0, 1) := by decide +kernel
theorem dX8_readsThing_50 : decode cX8_readsThing 50 = .ok (.invokevirtual 237, 3) := by decide +kernel
theorem dX8_readsThing_53 : decode cX8_readsThing 53 = .ok (.aload_n 0, 1) := by decide +kernel
theorem dX8_readsThing_54 : decode cX8_readsThing 54 = .ok (.iload_n 3, 1) := by decide +kernel
theorem dX8_readsThing_55 : decode cX8_readsThing 55 = .ok (.iload_n 3, 1) := by decide +kernel
theorem dX8_readsThing_56 : decode cX8_readsThing 56 = .ok (.ifCond .ne 8, 3) := by decide +kernel
theorem dX8_readsThing_59 : decode cX8_readsThing 59 = .ok (.bipush 15, 2) := by decide +kernel
theorem dX8_readsThing_61 : decode cX8_readsThing 61 = .ok (.goto 5, 3) := by decide +kernel
theorem dX8_readsThing_64 : decode cX8_readsThing 64 = .ok (.bipush 99, 2) := by decide +kernel
theorem dX8_readsThing_66 : decode cX8_readsThing 66 = .ok (.invokevirtual 244, 3) := by decide +kernel
theorem dX8_readsThing_69 : decode cX8_readsThing 69 = .ok (.istore 4, 2) := by decide +kernel
theorem dX8_readsThing_71 : decode cX8_readsThing 71 = .ok (.iload 4, 2) := by decide +kernel
theorem dX8_readsThing_73 : decode cX8_readsThing 73 = .ok (.ifCond .ge 5, 3) := by decide +kernel
theorem dX8_readsThing_76 : decode cX8_readsThing 76 = .ok (.iconst 0, 1) := by decide +kernel
theorem dX8_readsThing_77 : decode cX8_readsThing 77 = .ok (.ireturn, 1) := by decide +kernel
theorem dX8_readsThing_78 : decode cX8_readsThing 78 = .ok (.aload_n 0, 1) := by decide +kernel
theorem dX8_readsThing_79 : decode cX8_readsThing 79 = .ok (.iload_n 2, 1) := by decide +kernel
theorem dX8_readsThing_80 : decode cX8_readsThing 80 = .ok (.iconst 1, 1) := by decide +kernel
theorem dX8_readsThing_81 : decode cX8_readsThing 81 = .ok (.iload_n 3, 1) := by decide +kernel
theorem dX8_readsThing_82 : decode cX8_readsThing 82 = .ok (.iadd, 1) := by decide +kernel
theorem dX8_readsThing_83 : decode cX8_readsThing 83 = .ok (.iload 4, 2) := by decide +kernel
theorem dX8_readsThing_85 : decode cX8_readsThing 85 = .ok (.invokevirtual 95, 3) := by decide +kernel
theorem dX8_readsThing_88 : decode cX8_readsThing 88 = .ok (.iinc 3 1, 3) := by decide +kernel
theorem dX8_readsThing_91 : decode cX8_readsThing 91 = .ok (.goto (-59), 3) := by decide +kernel
theorem dX8_readsThing_94 : decode cX8_readsThing 94 = .ok (.iconst 1, 1) := by decide +kernel
theorem dX8_readsThing_95 : decode cX8_readsThing 95 = .ok (.ireturn, 1) := by decide +kernel
theorem dX8_readsPond_0 : decode cX8_readsPond 0 = .ok (.aload_n 0, 1) := by decide +kernel
theorem dX8_readsPond_1 : decode cX8_readsPond 1 = .ok (.iconst 0, 1) := by decide +kernel
theorem dX8_readsPond_2 : decode cX8_readsPond 2 = .ok (.bipush 15, 2) := by decide +kernel
theorem dX8_readsPond_4 : decode cX8_readsPond 4 = .ok (.invokevirtual 244, 3) := by decide +kernel
theorem dX8_readsPond_7 : decode cX8_readsPond 7 = .ok (.istore_n 1, 1) := by decide +kernel
theorem dX8_readsPond_8 : decode cX8_readsPond 8 = .ok (.iload_n 1, 1) := by decide +kernel
theorem dX8_readsPond_9 : decode cX8_readsPond 9 = .ok (.ifCond .ge 5, 3) := by decide +kernel
theorem dX8_readsPond_12 : decode cX8_readsPond 12 = .ok (.iconst 0, 1) := by decide +kernel
theorem dX8_readsPond_13 : decode cX8_readsPond 13 = .ok (.ireturn, 1) := by decide +kernel
theorem dX8_readsPond_14 : decode cX8_readsPond 14 = .ok (.iconst 0, 1) := by decide +kernel
theorem dX8_readsPond_15 : decode cX8_readsPond 15 = .ok (.istore_n 2, 1) := by decide +kernel
theorem dX8_readsPond_16 : decode cX8_readsPond 16 = .ok (.iload_n 2, 1) := by decide +kernel
theorem dX8_readsPond_17 : decode cX8_readsPond 17 = .ok (.bipush 6, 2) := by decide +kernel
theorem dX8_readsPond_19 : decode cX8_readsPond 19 = .ok (.if_icmp .ge 132, 3) := by decide +kernel
theorem dX8_readsPond_22 : decode cX8_readsPond 22 = .ok (.aload_n 0, 1) := by decide +kernel
theorem dX8_readsPond_23 : decode cX8_readsPond 23 = .ok (.aload_n 0, 1) := by decide +kernel
theorem dX8_readsPond_24 : decode cX8_readsPond 24 = .ok (.getfield 38, 3) := by decide +kernel
theorem dX8_readsPond_27 : decode cX8_readsPond 27 = .ok (.invokevirtual 240, 3) := by decide +kernel
theorem dX8_readsPond_30 : decode cX8_readsPond 30 = .ok (.iload_n 2, 1) := by decide +kernel
theorem dX8_readsPond_31 : decode cX8_readsPond 31 = .ok (.if_icmp .ne 114, 3) := by decide +kernel
theorem dX8_readsPond_34 : decode cX8_readsPond 34 = .ok (.aload_n 0, 1) := by decide +kernel
theorem dX8_readsPond_35 : decode cX8_readsPond 35 = .ok (.invokevirtual 237, 3) := by decide +kernel
theorem dX8_readsPond_38 : decode cX8_readsPond 38 = .ok (.iload_n 2, 1) := by decide +kernel
theorem dX8_readsPond_39 : decode cX8_readsPond 39 = .ok (.ifCond .ne 25, 3) := by decide +kernel
theorem dX8_readsPond_42 : decode cX8_readsPond 42 = .ok (.aload_n 0, 1) := by decide +kernel
theorem dX8_readsPond_43 : decode cX8_readsPond 43 = .ok (.getfield 216, 3) := by decide +kernel
theorem dX8_readsPond_46 : decode cX8_readsPond 46 = .ok (.iconst 2, 1) := by decide +kernel
theorem dX8_readsPond_47 : decode cX8_readsPond 47 = .ok (.if_icmp .ne 17, 3) := by decide +kernel
theorem dX8_readsPond_50 : decode cX8_readsPond 50 = .ok (.aload_n 0, 1) := by decide +kernel
theorem dX8_readsPond_51 : decode cX8_readsPond 51 = .ok (.getfield 212, 3) := by decide +kernel
theorem dX8_readsPond_54 : decode cX8_readsPond 54 = .ok (.iload_n 1, 1) := by decide +kernel
theorem dX8_readsPond_55 : decode cX8_readsPond 55 = .ok (.i2l, 1) := by decide +kernel
theorem dX8_readsPond_56 : decode cX8_readsPond 56 = .ok (.lcmp, 1) := by decide +kernel
theorem dX8_readsPond_57 : decode cX8_readsPond 57 = .ok (.ifCond .ne 7, 3) := by decide +kernel
theorem dX8_readsPond_60 : decode cX8_readsPond 60 = .ok (.iconst 1, 1) := by decide +kernel
theorem dX8_readsPond_61 : decode cX8_readsPond 61 = .ok (.goto 4, 3) := by decide +kernel
theorem dX8_readsPond_64 : decode cX8_readsPond 64 = .ok (.iconst 0, 1) := by decide +kernel
theorem dX8_readsPond_65 : decode cX8_readsPond 65 = .ok (.istore_n 3, 1) := by decide +kernel
theorem dX8_readsPond_66 : decode cX8_readsPond 66 = .ok (.iload_n 2, 1) := by decide +kernel
theorem dX8_readsPond_67 : decode cX8_readsPond 67 = .ok (.iconst 3, 1) := by decide +kernel
theorem dX8_readsPond_68 : decode cX8_readsPond 68 = .ok (.if_icmp .ne 7, 3) := by decide +kernel
theorem dX8_readsPond_71 : decode cX8_readsPond 71 = .ok (.iconst 1, 1) := by decide +kernel
theorem dX8_readsPond_72 : decode cX8_readsPond 72 = .ok (.goto 56, 3) := by decide +kernel
theorem dX8_readsPond_75 : decode cX8_readsPond 75 = .ok (.iload_n 3, 1) := by decide +kernel
theorem dX8_readsPond_76 : decode cX8_readsPond 76 = .ok (.ifCond .eq 7, 3) := by decide +kernel
theorem dX8_readsPond_79 : decode cX8_readsPond 79 = .ok (.iconst (-1), 1) := by decide +kernel
theorem dX8_readsPond_80 : decode cX8_readsPond 80 = .ok (.goto 48, 3) := by decide +kernel
theorem dX8_readsPond_83 : decode cX8_readsPond 83 = .ok (.aload_n 0, 1) := by decide +kernel
theorem dX8_readsPond_84 : decode cX8_readsPond 84 = .ok (.iload_n 2, 1) := by decide +kernel
theorem dX8_readsPond_85 : decode cX8_readsPond 85 = .ok (.iconst 1, 1) := by decide +kernel
theorem dX8_readsPond_86 : decode cX8_readsPond 86 = .ok (.if_icmp .ne 7, 3) := by decide +kernel
theorem dX8_readsPond_89 : decode cX8_readsPond 89 = .ok (.iconst 1, 1) := by decide +kernel
theorem dX8_readsPond_90 : decode cX8_readsPond 90 = .ok (.goto 4, 3) := by decide +kernel
theorem dX8_readsPond_93 : decode cX8_readsPond 93 = .ok (.iconst 0, 1) := by decide +kernel
theorem dX8_readsPond_94 : decode cX8_readsPond 94 = .ok (.iload_n 2, 1) := by decide +kernel
theorem dX8_readsPond_95 : decode cX8_readsPond 95 = .ok (.iconst 1, 1) := by decide +kernel
theorem dX8_readsPond_96 : decode cX8_readsPond 96 = .ok (.if_icmp .ne 8, 3) := by decide +kernel
theorem dX8_readsPond_99 : decode cX8_readsPond 99 = .ok (.bipush 9, 2) := by decide +kernel
theorem dX8_readsPond_101 : decode cX8_readsPond 101 = .ok (.goto 24, 3) := by decide +kernel
theorem dX8_readsPond_104 : decode cX8_readsPond 104 = .ok (.iload_n 2, 1) := by decide +kernel
theorem dX8_readsPond_105 : decode cX8_readsPond 105 = .ok (.iconst 2, 1) := by decide +kernel
theorem dX8_readsPond_106 : decode cX8_readsPond 106 = .ok (.if_icmp .ne 7, 3) := by decide +kernel
theorem dX8_readsPond_109 : decode cX8_readsPond 109 = .ok (.iconst 3, 1) := by decide +kernel
theorem dX8_readsPond_110 : decode cX8_readsPond 110 = .ok (.goto 15, 3) := by decide +kernel
theorem dX8_readsPond_113 : decode cX8_readsPond 113 = .ok (.iload_n 2, 1) := by decide +kernel
theorem dX8_readsPond_114 : decode cX8_readsPond 114 = .ok (.iconst 5, 1) := by decide +kernel
theorem dX8_readsPond_115 : decode cX8_readsPond 115 = .ok (.if_icmp .ne 8, 3) := by decide +kernel
theorem dX8_readsPond_118 : decode cX8_readsPond 118 = .ok (.bipush 99, 2) := by decide +kernel
theorem dX8_readsPond_120 : decode cX8_readsPond 120 = .ok (.goto 5, 3) := by decide +kernel
theorem dX8_readsPond_123 : decode cX8_readsPond 123 = .ok (.bipush 15, 2) := by decide +kernel
theorem dX8_readsPond_125 : decode cX8_readsPond 125 = .ok (.invokevirtual 244, 3) := by decide +kernel
theorem dX8_readsPond_128 : decode cX8_readsPond 128 = .ok (.istore 4, 2) := by decide +kernel
theorem dX8_readsPond_130 : decode cX8_readsPond 130 = .ok (.iload 4, 2) := by decide +kernel
theorem dX8_readsPond_132 : decode cX8_readsPond 132 = .ok (.ifCond .ge 5, 3) := by decide +kernel
theorem dX8_readsPond_135 : decode cX8_readsPond 135 = .ok (.iconst 0, 1) := by decide +kernel
theorem dX8_readsPond_136 : decode cX8_readsPond 136 = .ok (.ireturn, 1) := by decide +kernel
theorem dX8_readsPond_137 : decode cX8_readsPond 137 = .ok (.aload_n 0, 1) := by decide +kernel
theorem dX8_readsPond_138 : decode cX8_readsPond 138 = .ok (.iload_n 1, 1) := by decide +kernel
theorem dX8_readsPond_139 : decode cX8_readsPond 139 = .ok (.iload_n 2, 1) := by decide +kernel
theorem dX8_readsPond_140 : decode cX8_readsPond 140 = .ok (.iload 4, 2) := by decide +kernel
theorem dX8_readsPond_142 : decode cX8_readsPond 142 = .ok (.invokevirtual 53, 3) := by decide +kernel
theorem dX8_readsPond_145 : decode cX8_readsPond 145 = .ok (.iinc 2 1, 3) := by decide +kernel
theorem dX8_readsPond_148 : decode cX8_readsPond 148 = .ok (.goto (-132), 3) := by decide +kernel
theorem dX8_readsPond_151 : decode cX8_readsPond 151 = .ok (.iconst 1, 1) := by decide +kernel
theorem dX8_readsPond_152 : decode cX8_readsPond 152 = .ok (.ireturn, 1) := by decide +kernel
theorem dX8_readsItem_0 : decode cX8_readsItem 0 = .ok (.aload_n 0, 1) := by decide +kernel
theorem dX8_readsItem_1 : decode cX8_readsItem 1 = .ok (.aload_n 0, 1) := by decide +kernel
theorem dX8_readsItem_2 : decode cX8_readsItem 2 = .ok (.getfield 28, 3) := by decide +kernel
theorem dX8_readsItem_5 : decode cX8_readsItem 5 = .ok (.invokevirtual 240, 3) := by decide +kernel
theorem dX8_readsItem_8 : decode cX8_readsItem 8 = .ok (.istore_n 1, 1) := by decide +kernel
theorem dX8_readsItem_9 : decode cX8_readsItem 9 = .ok (.iload_n 1, 1) := by decide +kernel
theorem dX8_readsItem_10 : decode cX8_readsItem 10 = .ok (.ifCond .lt 9, 3) := by decide +kernel
theorem dX8_readsItem_13 : decode cX8_readsItem 13 = .ok (.aload_n 0, 1) := by decide +kernel
theorem dX8_readsItem_14 : decode cX8_readsItem 14 = .ok (.iload_n 1, 1) := by decide +kernel
theorem dX8_readsItem_15 : decode cX8_readsItem 15 = .ok (.invokevirtual 247, 3) := by decide +kernel
theorem dX8_readsItem_18 : decode cX8_readsItem 18 = .ok (.ireturn, 1) := by decide +kernel
theorem dX8_readsItem_19 : decode cX8_readsItem 19 = .ok (.aload_n 0, 1) := by decide +kernel
theorem dX8_readsItem_20 : decode cX8_readsItem 20 = .ok (.aload_n 0, 1) := by decide +kernel
theorem dX8_readsItem_21 : decode cX8_readsItem 21 = .ok (.getfield 35, 3) := by decide +kernel
theorem dX8_readsItem_24 : decode cX8_readsItem 24 = .ok (.invokevirtual 240, 3) := by decide +kernel
theorem dX8_readsItem_27 : decode cX8_readsItem 27 = .ok (.istore_n 2, 1) := by decide +kernel
theorem dX8_readsItem_28 : decode cX8_readsItem 28 = .ok (.iload_n 2, 1) := by decide +kernel
theorem dX8_readsItem_29 : decode cX8_readsItem 29 = .ok (.ifCond .ge 5, 3) := by decide +kernel
theorem dX8_readsItem_32 : decode cX8_readsItem 32 = .ok (.iconst 0, 1) := by decide +kernel
theorem dX8_readsItem_33 : decode cX8_readsItem 33 = .ok (.ireturn, 1) := by decide +kernel
theorem dX8_readsItem_34 : decode cX8_readsItem 34 = .ok (.aload_n 0, 1) := by decide +kernel
theorem dX8_readsItem_35 : decode cX8_readsItem 35 = .ok (.invokevirtual 237, 3) := by decide +kernel
theorem dX8_readsItem_38 : decode cX8_readsItem 38 = .ok (.iload_n 2, 1) := by decide +kernel
theorem dX8_readsItem_39 : decode cX8_readsItem 39 = .ok (.ifCond .ne 8, 3) := by decide +kernel
theorem dX8_readsItem_42 : decode cX8_readsItem 42 = .ok (.aload_n 0, 1) := by decide +kernel
theorem dX8_readsItem_43 : decode cX8_readsItem 43 = .ok (.invokevirtual 250, 3) := by decide +kernel
theorem dX8_readsItem_46 : decode cX8_readsItem 46 = .ok (.ireturn, 1) := by decide +kernel
theorem dX8_readsItem_47 : decode cX8_readsItem 47 = .ok (.aload_n 0, 1) := by decide +kernel
theorem dX8_readsItem_48 : decode cX8_readsItem 48 = .ok (.getfield 9, 3) := by decide +kernel
theorem dX8_readsItem_51 : decode cX8_readsItem 51 = .ok (.iconst 3, 1) := by decide +kernel
theorem dX8_readsItem_52 : decode cX8_readsItem 52 = .ok (.iload_n 2, 1) := by decide +kernel
theorem dX8_readsItem_53 : decode cX8_readsItem 53 = .ok (.iconst 1, 1) := by decide +kernel
theorem dX8_readsItem_54 : decode cX8_readsItem 54 = .ok (.if_icmp .ne 7, 3) := by decide +kernel
theorem dX8_readsItem_57 : decode cX8_readsItem 57 = .ok (.iconst 1, 1) := by decide +kernel
theorem dX8_readsItem_58 : decode cX8_readsItem 58 = .ok (.goto 4, 3) := by decide +kernel
theorem dX8_readsItem_61 : decode cX8_readsItem 61 = .ok (.iconst 0, 1) := by decide +kernel
theorem dX8_readsItem_62 : decode cX8_readsItem 62 = .ok (.iastore, 1) := by decide +kernel
theorem dX8_readsItem_63 : decode cX8_readsItem 63 = .ok (.iconst 1, 1) := by decide +kernel
theorem dX8_readsItem_64 : decode cX8_readsItem 64 = .ok (.ireturn, 1) := by decide +kernel
theorem dX8_text_0 : decode cX8_text 0 = .ok (.aload_n 0, 1) := by decide +kernel
theorem dX8_text_1 : decode cX8_text 1 = .ok (.invokevirtual 165, 3) := by decide +kernel
theorem dX8_text_4 : decode cX8_text 4 = .ok (.aload_n 0, 1) := by decide +kernel
theorem dX8_text_5 : decode cX8_text 5 = .ok (.iconst 0, 1) := by decide +kernel
theorem dX8_text_6 : decode cX8_text 6 = .ok (.putfield 206, 3) := by decide +kernel
theorem dX8_text_9 : decode cX8_text 9 = .ok (.aload_n 0, 1) := by decide +kernel
theorem dX8_text_10 : decode cX8_text 10 = .ok (.invokevirtual 237, 3) := by decide +kernel
theorem dX8_text_13 : decode cX8_text 13 = .ok (.iconst 1, 1) := by decide +kernel
theorem dX8_text_14 : decode cX8_text 14 = .ok (.istore_n 1, 1) := by decide +kernel
theorem dX8_text_15 : decode cX8_text 15 = .ok (.aload_n 0, 1) := by decide +kernel
theorem dX8_text_16 : decode cX8_text 16 = .ok (.invokevirtual 254, 3) := by decide +kernel
theorem dX8_text_19 : decode cX8_text 19 = .ok (.istore_n 2, 1) := by decide +kernel
theorem dX8_text_20 : decode cX8_text 20 = .ok (.iload_n 2, 1) := by decide +kernel
theorem dX8_text_21 : decode cX8_text 21 = .ok (.ifCond .eq 26, 3) := by decide +kernel
theorem dX8_text_24 : decode cX8_text 24 = .ok (.aload_n 0, 1) := by decide +kernel
theorem dX8_text_25 : decode cX8_text 25 = .ok (.getfield 216, 3) := by decide +kernel
theorem dX8_text_28 : decode cX8_text 28 = .ok (.iconst 3, 1) := by decide +kernel
theorem dX8_text_29 : decode cX8_text 29 = .ok (.if_icmp .ne 18, 3) := by decide +kernel
theorem dX8_text_32 : decode cX8_text 32 = .ok (.aload_n 0, 1) := by decide +kernel
theorem dX8_text_33 : decode cX8_text 33 = .ok (.invokevirtual 237, 3) := by decide +kernel
theorem dX8_text_36 : decode cX8_text 36 = .ok (.aload_n 0, 1) := by decide +kernel
theorem dX8_text_37 : decode cX8_text 37 = .ok (.invokevirtual 254, 3) := by decide +kernel
theorem dX8_text_40 : decode cX8_text 40 = .ok (.istore_n 2, 1) := by decide +kernel
theorem dX8_text_41 : decode cX8_text 41 = .ok (.iinc 1 1, 3) := by decide +kernel
theorem dX8_text_44 : decode cX8_text 44 = .ok (.goto (-24), 3) := by decide +kernel
theorem dX8_text_47 : decode cX8_text 47 = .ok (.iload_n 2, 1) := by decide +kernel
theorem dX8_text_48 : decode cX8_text 48 = .ok (.ifCond .eq 14, 3) := by decide +kernel
theorem dX8_text_51 : decode cX8_text 51 = .ok (.aload_n 0, 1) := by decide +kernel
theorem dX8_text_52 : decode cX8_text 52 = .ok (.getfield 216, 3) := by decide +kernel
theorem dX8_text_55 : decode cX8_text 55 = .ok (.ifCond .ne 7, 3) := by decide +kernel
theorem dX8_text_58 : decode cX8_text 58 = .ok (.iconst 1, 1) := by decide +kernel
theorem dX8_text_59 : decode cX8_text 59 = .ok (.goto 4, 3) := by decide +kernel
theorem dX8_text_62 : decode cX8_text 62 = .ok (.iconst 0, 1) := by decide +kernel
theorem dX8_text_63 : decode cX8_text 63 = .ok (.istore_n 2, 1) := by decide +kernel
theorem dX8_text_64 : decode cX8_text 64 = .ok (.aload_n 0, 1) := by decide +kernel
theorem dX8_text_65 : decode cX8_text 65 = .ok (.iconst 0, 1) := by decide +kernel
theorem dX8_text_66 : decode cX8_text 66 = .ok (.putfield 203, 3) := by decide +kernel
theorem dX8_text_69 : decode cX8_text 69 = .ok (.iload_n 2, 1) := by decide +kernel
theorem dX8_text_70 : decode cX8_text 70 = .ok (.ifCond .ne 14, 3) := by decide +kernel
theorem dX8_text_73 : decode cX8_text 73 = .ok (.aload_n 0, 1) := by decide +kernel
theorem dX8_text_74 : decode cX8_text 74 = .ok (.invokevirtual 168, 3) := by decide +kernel
theorem dX8_text_77 : decode cX8_text 77 = .ok (.iconst (-1), 1) := by decide +kernel
theorem dX8_text_78 : decode cX8_text 78 = .ok (.aload_n 0, 1) := by decide +kernel
theorem dX8_text_79 : decode cX8_text 79 = .ok (.getfield 209, 3) := by decide +kernel
theorem dX8_text_82 : decode cX8_text 82 = .ok (.isub, 1) := by decide +kernel
theorem dX8_text_83 : decode cX8_text 83 = .ok (.ireturn, 1) := by decide +kernel
theorem dX8_text_84 : decode cX8_text 84 = .ok (.iload_n 1, 1) := by decide +kernel
theorem dX8_text_85 : decode cX8_text 85 = .ok (.ireturn, 1) := by decide +kernel
theorem dX8_isSpot_0 : decode cX8_isSpot 0 = .ok (.iload_n 0, 1) := by decide +kernel
theorem dX8_isSpot_1 : decode cX8_isSpot 1 = .ok (.iconst 0, 1) := by decide +kernel
theorem dX8_isSpot_2 : decode cX8_isSpot 2 = .ok (.bipush 9, 2) := by decide +kernel
theorem dX8_isSpot_4 : decode cX8_isSpot 4 = .ok (.invokestatic 58, 3) := by decide +kernel
theorem dX8_isSpot_7 : decode cX8_isSpot 7 = .ok (.ireturn, 1) := by decide +kernel
theorem dX8_hold_0 : decode cX8_hold 0 = .ok (.iload_n 1, 1) := by decide +kernel
theorem dX8_hold_1 : decode cX8_hold 1 = .ok (.invokestatic 257, 3) := by decide +kernel
theorem dX8_hold_4 : decode cX8_hold 4 = .ok (.ifCond .eq 16, 3) := by decide +kernel
theorem dX8_hold_7 : decode cX8_hold 7 = .ok (.iload_n 2, 1) := by decide +kernel
theorem dX8_hold_8 : decode cX8_hold 8 = .ok (.iconst (-1), 1) := by decide +kernel
theorem dX8_hold_9 : decode cX8_hold 9 = .ok (.if_icmp .eq 17, 3) := by decide +kernel
theorem dX8_hold_12 : decode cX8_hold 12 = .ok (.aload_n 0, 1) := by decide +kernel
theorem dX8_hold_13 : decode cX8_hold 13 = .ok (.iload_n 2, 1) := by decide +kernel
theorem dX8_hold_14 : decode cX8_hold 14 = .ok (.invokevirtual 116, 3) := by decide +kernel
theorem dX8_hold_17 : decode cX8_hold 17 = .ok (.ifCond .ne 9, 3) := by decide +kernel
theorem dX8_hold_20 : decode cX8_hold 20 = .ok (.aload_n 0, 1) := by decide +kernel
theorem dX8_hold_21 : decode cX8_hold 21 = .ok (.iconst 0, 1) := by decide +kernel
theorem dX8_hold_22 : decode cX8_hold 22 = .ok (.invokevirtual 106, 3) := by decide +kernel
theorem dX8_hold_25 : decode cX8_hold 25 = .ok (.ireturn, 1) := by decide +kernel
theorem dX8_hold_26 : decode cX8_hold 26 = .ok (.aload_n 0, 1) := by decide +kernel
theorem dX8_hold_27 : decode cX8_hold 27 = .ok (.getfield 9, 3) := by decide +kernel
theorem dX8_hold_30 : decode cX8_hold 30 = .ok (.bipush 124, 2) := by decide +kernel
theorem dX8_hold_32 : decode cX8_hold 32 = .ok (.iload_n 1, 1) := by decide +kernel
theorem dX8_hold_33 : decode cX8_hold 33 = .ok (.iadd, 1) := by decide +kernel
theorem dX8_hold_34 : decode cX8_hold 34 = .ok (.iload_n 2, 1) := by decide +kernel
theorem dX8_hold_35 : decode cX8_hold 35 = .ok (.iastore, 1) := by decide +kernel
theorem dX8_hold_36 : decode cX8_hold 36 = .ok (.iconst 1, 1) := by decide +kernel
theorem dX8_hold_37 : decode cX8_hold 37 = .ok (.ireturn, 1) := by decide +kernel
theorem dX8_above_0 : decode cX8_above 0 = .ok (.iload_n 0, 1) := by decide +kernel
theorem dX8_above_1 : decode cX8_above 1 = .ok (.iconst 3, 1) := by decide +kernel
theorem dX8_above_2 : decode cX8_above 2 = .ok (.if_icmp .ne 7, 3) := by decide +kernel
theorem dX8_above_5 : decode cX8_above 5 = .ok (.iconst 2, 1) := by decide +kernel
theorem dX8_above_6 : decode cX8_above 6 = .ok (.goto 23, 3) := by decide +kernel
theorem dX8_above_9 : decode cX8_above 9 = .ok (.iload_n 0, 1) := by decide +kernel
theorem dX8_above_10 : decode cX8_above 10 = .ok (.iconst 4, 1) := by decide +kernel
theorem dX8_above_11 : decode cX8_above 11 = .ok (.if_icmp .ne 7, 3) := by decide +kernel
theorem dX8_above_14 : decode cX8_above 14 = .ok (.iconst 3, 1) := by decide +kernel
theorem dX8_above_15 : decode cX8_above 15 = .ok (.goto 14, 3) := by decide +kernel
theorem dX8_above_18 : decode cX8_above 18 = .ok (.iload_n 0, 1) := by decide +kernel
theorem dX8_above_19 : decode cX8_above 19 = .ok (.bipush 6, 2) := by decide +kernel
theorem dX8_above_21 : decode cX8_above 21 = .ok (.if_icmp .ne 7, 3) := by decide +kernel
theorem dX8_above_24 : decode cX8_above 24 = .ok (.iconst 1, 1) := by decide +kernel
theorem dX8_above_25 : decode cX8_above 25 = .ok (.goto 4, 3) := by decide +kernel
theorem dX8_above_28 : decode cX8_above 28 = .ok (.iconst 0, 1) := by decide +kernel
theorem dX8_above_29 : decode cX8_above 29 = .ok (.ireturn, 1) := by decide +kernel
theorem dX8_as_0 : decode cX8_as 0 = .ok (.iload_n 1, 1) := by decide +kernel
theorem dX8_as_1 : decode cX8_as 1 = .ok (.invokestatic 257, 3) := by decide +kernel
theorem dX8_as_4 : decode cX8_as 4 = .ok (.ifCond .eq 13, 3) := by decide +kernel
theorem dX8_as_7 : decode cX8_as 7 = .ok (.iload_n 2, 1) := by decide +kernel
theorem dX8_as_8 : decode cX8_as 8 = .ok (.iconst 0, 1) := by decide +kernel
theorem dX8_as_9 : decode cX8_as 9 = .ok (.bipush 6, 2) := by decide +kernel
theorem dX8_as_11 : decode cX8_as 11 = .ok (.invokestatic 58, 3) := by decide +kernel
theorem dX8_as_14 : decode cX8_as 14 = .ok (.ifCond .ne 9, 3) := by decide +kernel
theorem dX8_as_17 : decode cX8_as 17 = .ok (.aload_n 0, 1) := by decide +kernel
theorem dX8_as_18 : decode cX8_as 18 = .ok (.iconst 0, 1) := by decide +kernel
theorem dX8_as_19 : decode cX8_as 19 = .ok (.invokevirtual 106, 3) := by decide +kernel
theorem dX8_as_22 : decode cX8_as 22 = .ok (.ireturn, 1) := by decide +kernel
theorem dX8_as_23 : decode cX8_as 23 = .ok (.aload_n 0, 1) := by decide +kernel
theorem dX8_as_24 : decode cX8_as 24 = .ok (.getfield 9, 3) := by decide +kernel
theorem dX8_as_27 : decode cX8_as 27 = .ok (.bipush 124, 2) := by decide +kernel
theorem dX8_as_29 : decode cX8_as 29 = .ok (.iload_n 1, 1) := by decide +kernel
theorem dX8_as_30 : decode cX8_as 30 = .ok (.iadd, 1) := by decide +kernel
theorem dX8_as_31 : decode cX8_as 31 = .ok (.iaload, 1) := by decide +kernel
theorem dX8_as_32 : decode cX8_as 32 = .ok (.istore_n 3, 1) := by decide +kernel
theorem dX8_as_33 : decode cX8_as 33 = .ok (.iload_n 3, 1) := by decide +kernel
theorem dX8_as_34 : decode cX8_as 34 = .ok (.ifCond .ge 9, 3) := by decide +kernel
theorem dX8_as_37 : decode cX8_as 37 = .ok (.aload_n 0, 1) := by decide +kernel
theorem dX8_as_38 : decode cX8_as 38 = .ok (.iconst 5, 1) := by decide +kernel
theorem dX8_as_39 : decode cX8_as 39 = .ok (.invokevirtual 106, 3) := by decide +kernel
theorem dX8_as_42 : decode cX8_as 42 = .ok (.ireturn, 1) := by decide +kernel
theorem dX8_as_43 : decode cX8_as 43 = .ok (.aload_n 0, 1) := by decide +kernel
theorem dX8_as_44 : decode cX8_as 44 = .ok (.iload_n 3, 1) := by decide +kernel
theorem dX8_as_45 : decode cX8_as 45 = .ok (.iconst 0, 1) := by decide +kernel
theorem dX8_as_46 : decode cX8_as 46 = .ok (.invokevirtual 62, 3) := by decide +kernel
theorem dX8_as_49 : decode cX8_as 49 = .ok (.istore 4, 2) := by decide +kernel
theorem dX8_as_51 : decode cX8_as 51 = .ok (.iload 4, 2) := by decide +kernel
theorem dX8_as_53 : decode cX8_as 53 = .ok (.iload_n 2, 1) := by decide +kernel
theorem dX8_as_54 : decode cX8_as 54 = .ok (.if_icmp .eq 18, 3) := by decide +kernel
theorem dX8_as_57 : decode cX8_as 57 = .ok (.iload 4, 2) := by decide +kernel
theorem dX8_as_59 : decode cX8_as 59 = .ok (.ifCond .eq 13, 3) := by decide +kernel
theorem dX8_as_62 : decode cX8_as 62 = .ok (.iload 4, 2) := by decide +kernel
theorem dX8_as_64 : decode cX8_as 64 = .ok (.invokestatic 260, 3) := by decide +kernel
theorem dX8_as_67 : decode cX8_as 67 = .ok (.istore 4, 2) := by decide +kernel
theorem dX8_as_69 : decode cX8_as 69 = .ok (.goto (-18), 3) := by decide +kernel
theorem dX8_as_72 : decode cX8_as 72 = .ok (.iload 4, 2) := by decide +kernel
theorem dX8_as_74 : decode cX8_as 74 = .ok (.iload_n 2, 1) := by decide +kernel
theorem dX8_as_75 : decode cX8_as 75 = .ok (.if_icmp .ne 7, 3) := by decide +kernel
theorem dX8_as_78 : decode cX8_as 78 = .ok (.iload_n 3, 1) := by decide +kernel
theorem dX8_as_79 : decode cX8_as 79 = .ok (.goto 8, 3) := by decide +kernel
theorem dX8_as_82 : decode cX8_as 82 = .ok (.aload_n 0, 1) := by decide +kernel
theorem dX8_as_83 : decode cX8_as 83 = .ok (.iconst 2, 1) := by decide +kernel
theorem dX8_as_84 : decode cX8_as 84 = .ok (.invokevirtual 106, 3) := by decide +kernel
theorem dX8_as_87 : decode cX8_as 87 = .ok (.ireturn, 1) := by decide +kernel
theorem dX8_sheet_0 : decode cX8_sheet 0 = .ok (.iload_n 1, 1) := by decide +kernel
theorem dX8_sheet_1 : decode cX8_sheet 1 = .ok (.invokestatic 181, 3) := by decide +kernel
theorem dX8_sheet_4 : decode cX8_sheet 4 = .ok (.ifCond .eq 25, 3) := by decide +kernel
theorem dX8_sheet_7 : decode cX8_sheet 7 = .ok (.iload_n 2, 1) := by decide +kernel
theorem dX8_sheet_8 : decode cX8_sheet 8 = .ok (.ifCond .eq 27, 3) := by decide +kernel
theorem dX8_sheet_11 : decode cX8_sheet 11 = .ok (.iload_n 2, 1) := by decide +kernel
theorem dX8_sheet_12 : decode cX8_sheet 12 = .ok (.bipush 8, 2) := by decide +kernel
theorem dX8_sheet_14 : decode cX8_sheet 14 = .ok (.if_icmp .eq 21, 3) := by decide +kernel
theorem dX8_sheet_17 : decode cX8_sheet 17 = .ok (.iload_n 2, 1) := by decide +kernel
theorem dX8_sheet_18 : decode cX8_sheet 18 = .ok (.bipush 16, 2) := by decide +kernel
theorem dX8_sheet_20 : decode cX8_sheet 20 = .ok (.if_icmp .eq 15, 3) := by decide +kernel
theorem dX8_sheet_23 : decode cX8_sheet 23 = .ok (.iload_n 2, 1) := by decide +kernel
theorem dX8_sheet_24 : decode cX8_sheet 24 = .ok (.bipush 32, 2) := by decide +kernel
theorem dX8_sheet_26 : decode cX8_sheet 26 = .ok (.if_icmp .eq 9, 3) := by decide +kernel
theorem dX8_sheet_29 : decode cX8_sheet 29 = .ok (.aload_n 0, 1) := by decide +kernel
theorem dX8_sheet_30 : decode cX8_sheet 30 = .ok (.iconst 0, 1) := by decide +kernel
theorem dX8_sheet_31 : decode cX8_sheet 31 = .ok (.invokevirtual 106, 3) := by decide +kernel
theorem dX8_sheet_34 : decode cX8_sheet 34 = .ok (.ireturn, 1) := by decide +kernel
theorem dX8_sheet_35 : decode cX8_sheet 35 = .ok (.iload_n 3, 1) := by decide +kernel
theorem dX8_sheet_36 : decode cX8_sheet 36 = .ok (.ifCond .ge 10, 3) := by decide +kernel
theorem dX8_sheet_39 : decode cX8_sheet 39 = .ok (.aload_n 0, 1) := by decide +kernel
theorem dX8_sheet_40 : decode cX8_sheet 40 = .ok (.bipush 6, 2) := by decide +kernel
theorem dX8_sheet_42 : decode cX8_sheet 42 = .ok (.invokevirtual 106, 3) := by decide +kernel
theorem dX8_sheet_45 : decode cX8_sheet 45 = .ok (.ireturn, 1) := by decide +kernel
theorem dX8_sheet_46 : decode cX8_sheet 46 = .ok (.iload_n 3, 1) := by decide +kernel
theorem dX8_sheet_47 : decode cX8_sheet 47 = .ok (.bipush 40, 2) := by decide +kernel
theorem dX8_sheet_49 : decode cX8_sheet 49 = .ok (.if_icmp .le 9, 3) := by decide +kernel
theorem dX8_sheet_52 : decode cX8_sheet 52 = .ok (.aload_n 0, 1) := by decide +kernel
theorem dX8_sheet_53 : decode cX8_sheet 53 = .ok (.iconst 0, 1) := by decide +kernel
theorem dX8_sheet_54 : decode cX8_sheet 54 = .ok (.invokevirtual 106, 3) := by decide +kernel
theorem dX8_sheet_57 : decode cX8_sheet 57 = .ok (.ireturn, 1) := by decide +kernel
theorem dX8_sheet_58 : decode cX8_sheet 58 = .ok (.aload_n 0, 1) := by decide +kernel
theorem dX8_sheet_59 : decode cX8_sheet 59 = .ok (.getfield 41, 3) := by decide +kernel
theorem dX8_sheet_62 : decode cX8_sheet 62 = .ok (.iload_n 1, 1) := by decide +kernel
theorem dX8_sheet_63 : decode cX8_sheet 63 = .ok (.iload_n 2, 1) := by decide +kernel
theorem dX8_sheet_64 : decode cX8_sheet 64 = .ok (.iastore, 1) := by decide +kernel
theorem dX8_sheet_65 : decode cX8_sheet 65 = .ok (.aload_n 0, 1) := by decide +kernel
theorem dX8_sheet_66 : decode cX8_sheet 66 = .ok (.getfield 44, 3) := by decide +kernel
theorem dX8_sheet_69 : decode cX8_sheet 69 = .ok (.iload_n 1, 1) := by decide +kernel
theorem dX8_sheet_70 : decode cX8_sheet 70 = .ok (.iload_n 2, 1) := by decide +kernel
theorem dX8_sheet_71 : decode cX8_sheet 71 = .ok (.ifCond .ne 7, 3) := by decide +kernel
theorem dX8_sheet_74 : decode cX8_sheet 74 = .ok (.iconst 0, 1) := by decide +kernel
theorem dX8_sheet_75 : decode cX8_sheet 75 = .ok (.goto 4, 3) := by decide +kernel
theorem dX8_sheet_78 : decode cX8_sheet 78 = .ok (.iload_n 3, 1) := by decide +kernel
theorem dX8_sheet_79 : decode cX8_sheet 79 = .ok (.iastore, 1) := by decide +kernel
theorem dX8_sheet_80 : decode cX8_sheet 80 = .ok (.iconst 0, 1) := by decide +kernel
theorem dX8_sheet_81 : decode cX8_sheet 81 = .ok (.istore 4, 2) := by decide +kernel
theorem dX8_sheet_83 : decode cX8_sheet 83 = .ok (.iload 4, 2) := by decide +kernel
theorem dX8_sheet_85 : decode cX8_sheet 85 = .ok (.bipush 40, 2) := by decide +kernel
theorem dX8_sheet_87 : decode cX8_sheet 87 = .ok (.if_icmp .ge 22, 3) := by decide +kernel
theorem dX8_sheet_90 : decode cX8_sheet 90 = .ok (.aload_n 0, 1) := by decide +kernel
theorem dX8_sheet_91 : decode cX8_sheet 91 = .ok (.getfield 47, 3) := by decide +kernel
theorem dX8_sheet_94 : decode cX8_sheet 94 = .ok (.bipush 40, 2) := by decide +kernel
theorem dX8_sheet_96 : decode cX8_sheet 96 = .ok (.iload_n 1, 1) := by decide +kernel
theorem dX8_sheet_97 : decode cX8_sheet 97 = .ok (.imul, 1) := by decide +kernel
theorem dX8_sheet_98 : decode cX8_sheet 98 = .ok (.iload 4, 2) := by decide +kernel
theorem dX8_sheet_100 : decode cX8_sheet 100 = .ok (.iadd, 1) := by decide +kernel
theorem dX8_sheet_101 : decode cX8_sheet 101 = .ok (.iconst 0, 1) := by decide +kernel
theorem dX8_sheet_102 : decode cX8_sheet 102 = .ok (.iastore, 1) := by decide +kernel
theorem dX8_sheet_103 : decode cX8_sheet 103 = .ok (.iinc 4 1, 3) := by decide +kernel
theorem dX8_sheet_106 : decode cX8_sheet 106 = .ok (.goto (-23), 3) := by decide +kernel
theorem dX8_sheet_109 : decode cX8_sheet 109 = .ok (.aload_n 0, 1) := by decide +kernel
theorem dX8_sheet_110 : decode cX8_sheet 110 = .ok (.getfield 44, 3) := by decide +kernel
theorem dX8_sheet_113 : decode cX8_sheet 113 = .ok (.iload_n 1, 1) := by decide +kernel
theorem dX8_sheet_114 : decode cX8_sheet 114 = .ok (.iaload, 1) := by decide +kernel
theorem dX8_sheet_115 : decode cX8_sheet 115 = .ok (.ireturn, 1) := by decide +kernel
theorem dX8_write_0 : decode cX8_write 0 = .ok (.aload_n 0, 1) := by decide +kernel
theorem dX8_write_1 : decode cX8_write 1 = .ok (.iload_n 1, 1) := by decide +kernel
theorem dX8_write_2 : decode cX8_write 2 = .ok (.invokevirtual 184, 3) := by decide +kernel
theorem dX8_write_5 : decode cX8_write 5 = .ok (.istore 4, 2) := by decide +kernel
theorem dX8_write_7 : decode cX8_write 7 = .ok (.iload 4, 2) := by decide +kernel
theorem dX8_write_9 : decode cX8_write 9 = .ok (.ifCond .ge 22, 3) := by decide +kernel
theorem dX8_write_12 : decode cX8_write 12 = .ok (.iload_n 2, 1) := by decide +kernel
theorem dX8_write_13 : decode cX8_write 13 = .ok (.iconst 0, 1) := by decide +kernel
theorem dX8_write_14 : decode cX8_write 14 = .ok (.aload_n 0, 1) := by decide +kernel
theorem dX8_write_15 : decode cX8_write 15 = .ok (.getfield 44, 3) := by decide +kernel
theorem dX8_write_18 : decode cX8_write 18 = .ok (.iload_n 1, 1) := by decide +kernel
theorem dX8_write_19 : decode cX8_write 19 = .ok (.iaload, 1) := by decide +kernel
theorem dX8_write_20 : decode cX8_write 20 = .ok (.iconst 1, 1) := by decide +kernel
theorem dX8_write_21 : decode cX8_write 21 = .ok (.isub, 1) := by decide +kernel
theorem dX8_write_22 : decode cX8_write 22 = .ok (.invokestatic 58, 3) := by decide +kernel
theorem dX8_write_25 : decode cX8_write 25 = .ok (.ifCond .ne 6, 3) := by decide +kernel
theorem dX8_write_28 : decode cX8_write 28 = .ok (.iconst 0, 1) := by decide +kernel
theorem dX8_write_29 : decode cX8_write 29 = .ok (.istore 4, 2) := by decide +kernel
theorem dX8_write_31 : decode cX8_write 31 = .ok (.iload 4, 2) := by decide +kernel
theorem dX8_write_33 : decode cX8_write 33 = .ok (.ifCond .lt 10, 3) := by decide +kernel
theorem dX8_write_36 : decode cX8_write 36 = .ok (.aload_n 0, 1) := by decide +kernel
theorem dX8_write_37 : decode cX8_write 37 = .ok (.iload 4, 2) := by decide +kernel
theorem dX8_write_39 : decode cX8_write 39 = .ok (.invokevirtual 106, 3) := by decide +kernel
theorem dX8_write_42 : decode cX8_write 42 = .ok (.ireturn, 1) := by decide +kernel
theorem dX8_write_43 : decode cX8_write 43 = .ok (.aload_n 0, 1) := by decide +kernel
theorem dX8_write_44 : decode cX8_write 44 = .ok (.getfield 47, 3) := by decide +kernel
theorem dX8_write_47 : decode cX8_write 47 = .ok (.bipush 40, 2) := by decide +kernel
theorem dX8_write_49 : decode cX8_write 49 = .ok (.iload_n 1, 1) := by decide +kernel
theorem dX8_write_50 : decode cX8_write 50 = .ok (.imul, 1) := by decide +kernel
theorem dX8_write_51 : decode cX8_write 51 = .ok (.iload_n 2, 1) := by decide +kernel
theorem dX8_write_52 : decode cX8_write 52 = .ok (.iadd, 1) := by decide +kernel
theorem dX8_write_53 : decode cX8_write 53 = .ok (.aload_n 0, 1) := by decide +kernel
theorem dX8_write_54 : decode cX8_write 54 = .ok (.getfield 41, 3) := by decide +kernel
theorem dX8_write_57 : decode cX8_write 57 = .ok (.iload_n 1, 1) := by decide +kernel
theorem dX8_write_58 : decode cX8_write 58 = .ok (.iaload, 1) := by decide +kernel
theorem dX8_write_59 : decode cX8_write 59 = .ok (.bipush 8, 2) := by decide +kernel
theorem dX8_write_61 : decode cX8_write 61 = .ok (.if_icmp .ne 8, 3) := by decide +kernel
theorem dX8_write_64 : decode cX8_write 64 = .ok (.iload_n 3, 1) := by decide +kernel
theorem dX8_write_65 : decode cX8_write 65 = .ok (.i2b, 1) := by decide +kernel
theorem dX8_write_66 : decode cX8_write 66 = .ok (.goto 20, 3) := by decide +kernel
theorem dX8_write_69 : decode cX8_write 69 = .ok (.aload_n 0, 1) := by decide +kernel
theorem dX8_write_70 : decode cX8_write 70 = .ok (.getfield 41, 3) := by decide +kernel
theorem dX8_write_73 : decode cX8_write 73 = .ok (.iload_n 1, 1) := by decide +kernel
theorem dX8_write_74 : decode cX8_write 74 = .ok (.iaload, 1) := by decide +kernel
theorem dX8_write_75 : decode cX8_write 75 = .ok (.bipush 16, 2) := by decide +kernel
theorem dX8_write_77 : decode cX8_write 77 = .ok (.if_icmp .ne 8, 3) := by decide +kernel
theorem dX8_write_80 : decode cX8_write 80 = .ok (.iload_n 3, 1) := by decide +kernel
theorem dX8_write_81 : decode cX8_write 81 = .ok (.i2s, 1) := by decide +kernel
theorem dX8_write_82 : decode cX8_write 82 = .ok (.goto 4, 3) := by decide +kernel
theorem dX8_write_85 : decode cX8_write 85 = .ok (.iload_n 3, 1) := by decide +kernel
theorem dX8_write_86 : decode cX8_write 86 = .ok (.iastore, 1) := by decide +kernel
theorem dX8_write_87 : decode cX8_write 87 = .ok (.iconst 1, 1) := by decide +kernel
theorem dX8_write_88 : decode cX8_write 88 = .ok (.ireturn, 1) := by decide +kernel
theorem dX8_copy_0 : decode cX8_copy 0 = .ok (.iload_n 1, 1) := by decide +kernel
theorem dX8_copy_1 : decode cX8_copy 1 = .ok (.invokestatic 181, 3) := by decide +kernel
theorem dX8_copy_4 : decode cX8_copy 4 = .ok (.ifCond .eq 10, 3) := by decide +kernel
theorem dX8_copy_7 : decode cX8_copy 7 = .ok (.iload_n 3, 1) := by decide +kernel
theorem dX8_copy_8 : decode cX8_copy 8 = .ok (.invokestatic 181, 3) := by decide +kernel
theorem dX8_copy_11 : decode cX8_copy 11 = .ok (.ifCond .ne 9, 3) := by decide +kernel
theorem dX8_copy_14 : decode cX8_copy 14 = .ok (.aload_n 0, 1) := by decide +kernel
theorem dX8_copy_15 : decode cX8_copy 15 = .ok (.iconst 0, 1) := by decide +kernel
theorem dX8_copy_16 : decode cX8_copy 16 = .ok (.invokevirtual 106, 3) := by decide +kernel
theorem dX8_copy_19 : decode cX8_copy 19 = .ok (.ireturn, 1) := by decide +kernel
theorem dX8_copy_20 : decode cX8_copy 20 = .ok (.aload_n 0, 1) := by decide +kernel
theorem dX8_copy_21 : decode cX8_copy 21 = .ok (.getfield 41, 3) := by decide +kernel
theorem dX8_copy_24 : decode cX8_copy 24 = .ok (.iload_n 1, 1) := by decide +kernel
theorem dX8_copy_25 : decode cX8_copy 25 = .ok (.iaload, 1) := by decide +kernel
theorem dX8_copy_26 : decode cX8_copy 26 = .ok (.ifCond .eq 12, 3) := by decide +kernel
theorem dX8_copy_29 : decode cX8_copy 29 = .ok (.aload_n 0, 1) := by decide +kernel
theorem dX8_copy_30 : decode cX8_copy 30 = .ok (.getfield 41, 3) := by decide +kernel
theorem dX8_copy_33 : decode cX8_copy 33 = .ok (.iload_n 3, 1) := by decide +kernel
theorem dX8_copy_34 : decode cX8_copy 34 = .ok (.iaload, 1) := by decide +kernel
theorem dX8_copy_35 : decode cX8_copy 35 = .ok (.ifCond .ne 9, 3) := by decide +kernel
theorem dX8_copy_38 : decode cX8_copy 38 = .ok (.aload_n 0, 1) := by decide +kernel
theorem dX8_copy_39 : decode cX8_copy 39 = .ok (.iconst 5, 1) := by decide +kernel
theorem dX8_copy_40 : decode cX8_copy 40 = .ok (.invokevirtual 106, 3) := by decide +kernel
theorem dX8_copy_43 : decode cX8_copy 43 = .ok (.ireturn, 1) := by decide +kernel
theorem dX8_copy_44 : decode cX8_copy 44 = .ok (.aload_n 0, 1) := by decide +kernel
theorem dX8_copy_45 : decode cX8_copy 45 = .ok (.getfield 41, 3) := by decide +kernel
theorem dX8_copy_48 : decode cX8_copy 48 = .ok (.iload_n 1, 1) := by decide +kernel
theorem dX8_copy_49 : decode cX8_copy 49 = .ok (.iaload, 1) := by decide +kernel
theorem dX8_copy_50 : decode cX8_copy 50 = .ok (.aload_n 0, 1) := by decide +kernel
theorem dX8_copy_51 : decode cX8_copy 51 = .ok (.getfield 41, 3) := by decide +kernel
theorem dX8_copy_54 : decode cX8_copy 54 = .ok (.iload_n 3, 1) := by decide +kernel
theorem dX8_copy_55 : decode cX8_copy 55 = .ok (.iaload, 1) := by decide +kernel
theorem dX8_copy_56 : decode cX8_copy 56 = .ok (.if_icmp .eq 9, 3) := by decide +kernel
theorem dX8_copy_59 : decode cX8_copy 59 = .ok (.aload_n 0, 1) := by decide +kernel
theorem dX8_copy_60 : decode cX8_copy 60 = .ok (.iconst 2, 1) := by decide +kernel
theorem dX8_copy_61 : decode cX8_copy 61 = .ok (.invokevirtual 106, 3) := by decide +kernel
theorem dX8_copy_64 : decode cX8_copy 64 = .ok (.ireturn, 1) := by decide +kernel
theorem dX8_copy_65 : decode cX8_copy 65 = .ok (.iload 5, 2) := by decide +kernel
theorem dX8_copy_67 : decode cX8_copy 67 = .ok (.ifCond .lt 39, 3) := by decide +kernel
theorem dX8_copy_70 : decode cX8_copy 70 = .ok (.iload_n 2, 1) := by decide +kernel
theorem dX8_copy_71 : decode cX8_copy 71 = .ok (.ifCond .lt 35, 3) := by decide +kernel
theorem dX8_copy_74 : decode cX8_copy 74 = .ok (.iload 4, 2) := by decide +kernel
theorem dX8_copy_76 : decode cX8_copy 76 = .ok (.ifCond .lt 30, 3) := by decide +kernel
theorem dX8_copy_79 : decode cX8_copy 79 = .ok (.iload_n 2, 1) := by decide +kernel
theorem dX8_copy_80 : decode cX8_copy 80 = .ok (.aload_n 0, 1) := by decide +kernel
theorem dX8_copy_81 : decode cX8_copy 81 = .ok (.getfield 44, 3) := by decide +kernel
theorem dX8_copy_84 : decode cX8_copy 84 = .ok (.iload_n 1, 1) := by decide +kernel
theorem dX8_copy_85 : decode cX8_copy 85 = .ok (.iaload, 1) := by decide +kernel
theorem dX8_copy_86 : decode cX8_copy 86 = .ok (.iload 5, 2) := by decide +kernel
theorem dX8_copy_88 : decode cX8_copy 88 = .ok (.isub, 1) := by decide +kernel
theorem dX8_copy_89 : decode cX8_copy 89 = .ok (.if_icmp .gt 17, 3) := by decide +kernel
theorem dX8_copy_92 : decode cX8_copy 92 = .ok (.iload 4, 2) := by decide +kernel
theorem dX8_copy_94 : decode cX8_copy 94 = .ok (.aload_n 0, 1) := by decide +kernel
theorem dX8_copy_95 : decode cX8_copy 95 = .ok (.getfield 44, 3) := by decide +kernel
theorem dX8_copy_98 : decode cX8_copy 98 = .ok (.iload_n 3, 1) := by decide +kernel
theorem dX8_copy_99 : decode cX8_copy 99 = .ok (.iaload, 1) := by decide +kernel
theorem dX8_copy_100 : decode cX8_copy 100 = .ok (.iload 5, 2) := by decide +kernel
theorem dX8_copy_102 : decode cX8_copy 102 = .ok (.isub, 1) := by decide +kernel
theorem dX8_copy_103 : decode cX8_copy 103 = .ok (.if_icmp .le 9, 3) := by decide +kernel
theorem dX8_copy_106 : decode cX8_copy 106 = .ok (.aload_n 0, 1) := by decide +kernel
theorem dX8_copy_107 : decode cX8_copy 107 = .ok (.iconst 0, 1) := by decide +kernel
theorem dX8_copy_108 : decode cX8_copy 108 = .ok (.invokevirtual 106, 3) := by decide +kernel
theorem dX8_copy_111 : decode cX8_copy 111 = .ok (.ireturn, 1) := by decide +kernel
theorem dX8_copy_112 : decode cX8_copy 112 = .ok (.iconst 0, 1) := by decide +kernel
theorem dX8_copy_113 : decode cX8_copy 113 = .ok (.istore 6, 2) := by decide +kernel
theorem dX8_copy_115 : decode cX8_copy 115 = .ok (.iload 6, 2) := by decide +kernel
theorem dX8_copy_117 : decode cX8_copy 117 = .ok (.iload 5, 2) := by decide +kernel
theorem dX8_copy_119 : decode cX8_copy 119 = .ok (.if_icmp .ge 30, 3) := by decide +kernel
theorem dX8_copy_122 : decode cX8_copy 122 = .ok (.aload_n 0, 1) := by decide +kernel
theorem dX8_copy_123 : decode cX8_copy 123 = .ok (.getfield 50, 3) := by decide +kernel
theorem dX8_copy_126 : decode cX8_copy 126 = .ok (.iload 6, 2) := by decide +kernel
theorem dX8_copy_128 : decode cX8_copy 128 = .ok (.aload_n 0, 1) := by decide +kernel
theorem dX8_copy_129 : decode cX8_copy 129 = .ok (.getfield 47, 3) := by decide +kernel
theorem dX8_copy_132 : decode cX8_copy 132 = .ok (.bipush 40, 2) := by decide +kernel
theorem dX8_copy_134 : decode cX8_copy 134 = .ok (.iload_n 1, 1) := by decide +kernel
theorem dX8_copy_135 : decode cX8_copy 135 = .ok (.imul, 1) := by decide +kernel
theorem dX8_copy_136 : decode cX8_copy 136 = .ok (.iload_n 2, 1) := by decide +kernel
theorem dX8_copy_137 : decode cX8_copy 137 = .ok (.iadd, 1) := by decide +kernel
theorem dX8_copy_138 : decode cX8_copy 138 = .ok (.iload 6, 2) := by decide +kernel
theorem dX8_copy_140 : decode cX8_copy 140 = .ok (.iadd, 1) := by decide +kernel
theorem dX8_copy_141 : decode cX8_copy 141 = .ok (.iaload, 1) := by decide +kernel
theorem dX8_copy_142 : decode cX8_copy 142 = .ok (.iastore, 1) := by decide +kernel
theorem dX8_copy_143 : decode cX8_copy 143 = .ok (.iinc 6 1, 3) := by decide +kernel
theorem dX8_copy_146 : decode cX8_copy 146 = .ok (.goto (-31), 3) := by decide +kernel
theorem dX8_copy_149 : decode cX8_copy 149 = .ok (.iconst 0, 1) := by decide +kernel
theorem dX8_copy_150 : decode cX8_copy 150 = .ok (.istore 6, 2) := by decide +kernel
theorem dX8_copy_152 : decode cX8_copy 152 = .ok (.iload 6, 2) := by decide +kernel
theorem dX8_copy_154 : decode cX8_copy 154 = .ok (.iload 5, 2) := by decide +kernel
theorem dX8_copy_156 : decode cX8_copy 156 = .ok (.if_icmp .ge 31, 3) := by decide +kernel
theorem dX8_copy_159 : decode cX8_copy 159 = .ok (.aload_n 0, 1) := by decide +kernel
theorem dX8_copy_160 : decode cX8_copy 160 = .ok (.getfield 47, 3) := by decide +kernel
theorem dX8_copy_163 : decode cX8_copy 163 = .ok (.bipush 40, 2) := by decide +kernel
theorem dX8_copy_165 : decode cX8_copy 165 = .ok (.iload_n 3, 1) := by decide +kernel
theorem dX8_copy_166 : decode cX8_copy 166 = .ok (.imul, 1) := by decide +kernel
theorem dX8_copy_167 : decode cX8_copy 167 = .ok (.iload 4, 2) := by decide +kernel
theorem dX8_copy_169 : decode cX8_copy 169 = .ok (.iadd, 1) := by decide +kernel
theorem dX8_copy_170 : decode cX8_copy 170 = .ok (.iload 6, 2) := by decide +kernel
theorem dX8_copy_172 : decode cX8_copy 172 = .ok (.iadd, 1) := by decide +kernel
theorem dX8_copy_173 : decode cX8_copy 173 = .ok (.aload_n 0, 1) := by decide +kernel
theorem dX8_copy_174 : decode cX8_copy 174 = .ok (.getfield 50, 3) := by decide +kernel
theorem dX8_copy_177 : decode cX8_copy 177 = .ok (.iload 6, 2) := by decide +kernel
theorem dX8_copy_179 : decode cX8_copy 179 = .ok (.iaload, 1) := by decide +kernel
theorem dX8_copy_180 : decode cX8_copy 180 = .ok (.iastore, 1) := by decide +kernel
theorem dX8_copy_181 : decode cX8_copy 181 = .ok (.iinc 6 1, 3) := by decide +kernel
theorem dX8_copy_184 : decode cX8_copy 184 = .ok (.goto (-32), 3) := by decide +kernel
theorem dX8_copy_187 : decode cX8_copy 187 = .ok (.iload 5, 2) := by decide +kernel
theorem dX8_copy_189 : decode cX8_copy 189 = .ok (.ireturn, 1) := by decide +kernel
theorem dX8_load_0 : decode cX8_load 0 = .ok (.aload_n 0, 1) := by decide +kernel
theorem dX8_load_1 : decode cX8_load 1 = .ok (.iload_n 1, 1) := by decide +kernel
theorem dX8_load_2 : decode cX8_load 2 = .ok (.invokevirtual 184, 3) := by decide +kernel
theorem dX8_load_5 : decode cX8_load 5 = .ok (.istore_n 2, 1) := by decide +kernel
theorem dX8_load_6 : decode cX8_load 6 = .ok (.iload_n 2, 1) := by decide +kernel
theorem dX8_load_7 : decode cX8_load 7 = .ok (.ifCond .lt 9, 3) := by decide +kernel
theorem dX8_load_10 : decode cX8_load 10 = .ok (.aload_n 0, 1) := by decide +kernel
theorem dX8_load_11 : decode cX8_load 11 = .ok (.iload_n 2, 1) := by decide +kernel
theorem dX8_load_12 : decode cX8_load 12 = .ok (.invokevirtual 106, 3) := by decide +kernel
theorem dX8_load_15 : decode cX8_load 15 = .ok (.ireturn, 1) := by decide +kernel
theorem dX8_load_16 : decode cX8_load 16 = .ok (.iconst 0, 1) := by decide +kernel
theorem dX8_load_17 : decode cX8_load 17 = .ok (.istore_n 3, 1) := by decide +kernel
theorem dX8_load_18 : decode cX8_load 18 = .ok (.iload_n 3, 1) := by decide +kernel
theorem dX8_load_19 : decode cX8_load 19 = .ok (.aload_n 0, 1) := by decide +kernel
theorem dX8_load_20 : decode cX8_load 20 = .ok (.getfield 44, 3) := by decide +kernel
theorem dX8_load_23 : decode cX8_load 23 = .ok (.iload_n 1, 1) := by decide +kernel
theorem dX8_load_24 : decode cX8_load 24 = .ok (.iaload, 1) := by decide +kernel
theorem dX8_load_25 : decode cX8_load 25 = .ok (.if_icmp .ge 42, 3) := by decide +kernel
theorem dX8_load_28 : decode cX8_load 28 = .ok (.iload_n 3, 1) := by decide +kernel
theorem dX8_load_29 : decode cX8_load 29 = .ok (.bipush 16, 2) := by decide +kernel
theorem dX8_load_31 : decode cX8_load 31 = .ok (.if_icmp .ge 36, 3) := by decide +kernel
theorem dX8_load_34 : decode cX8_load 34 = .ok (.aload_n 0, 1) := by decide +kernel
theorem dX8_load_35 : decode cX8_load 35 = .ok (.iload_n 1, 1) := by decide +kernel
theorem dX8_load_36 : decode cX8_load 36 = .ok (.iload_n 3, 1) := by decide +kernel
theorem dX8_load_37 : decode cX8_load 37 = .ok (.invokevirtual 187, 3) := by decide +kernel
theorem dX8_load_40 : decode cX8_load 40 = .ok (.iconst 0, 1) := by decide +kernel
theorem dX8_load_41 : decode cX8_load 41 = .ok (.bipush 99, 2) := by decide +kernel
theorem dX8_load_43 : decode cX8_load 43 = .ok (.invokestatic 58, 3) := by decide +kernel
theorem dX8_load_46 : decode cX8_load 46 = .ok (.ifCond .eq 21, 3) := by decide +kernel
theorem dX8_load_49 : decode cX8_load 49 = .ok (.aload_n 0, 1) := by decide +kernel
theorem dX8_load_50 : decode cX8_load 50 = .ok (.iload_n 3, 1) := by decide +kernel
theorem dX8_load_51 : decode cX8_load 51 = .ok (.iconst 5, 1) := by decide +kernel
theorem dX8_load_52 : decode cX8_load 52 = .ok (.aload_n 0, 1) := by decide +kernel
theorem dX8_load_53 : decode cX8_load 53 = .ok (.iload_n 1, 1) := by decide +kernel
theorem dX8_load_54 : decode cX8_load 54 = .ok (.iload_n 3, 1) := by decide +kernel
theorem dX8_load_55 : decode cX8_load 55 = .ok (.invokevirtual 187, 3) := by decide +kernel
theorem dX8_load_58 : decode cX8_load 58 = .ok (.invokevirtual 53, 3) := by decide +kernel
theorem dX8_load_61 : decode cX8_load 61 = .ok (.iinc 3 1, 3) := by decide +kernel
theorem dX8_load_64 : decode cX8_load 64 = .ok (.goto (-46), 3) := by decide +kernel
theorem dX8_load_67 : decode cX8_load 67 = .ok (.iload_n 3, 1) := by decide +kernel
theorem dX8_load_68 : decode cX8_load 68 = .ok (.ireturn, 1) := by decide +kernel
theorem dX8_judge_0 : decode cX8_judge 0 = .ok (.aload_n 0, 1) := by decide +kernel
theorem dX8_judge_1 : decode cX8_judge 1 = .ok (.iload_n 1, 1) := by decide +kernel
theorem dX8_judge_2 : decode cX8_judge 2 = .ok (.invokevirtual 184, 3) := by decide +kernel
theorem dX8_judge_5 : decode cX8_judge 5 = .ok (.istore_n 2, 1) := by decide +kernel
theorem dX8_judge_6 : decode cX8_judge 6 = .ok (.iload_n 2, 1) := by decide +kernel
theorem dX8_judge_7 : decode cX8_judge 7 = .ok (.ifCond .lt 9, 3) := by decide +kernel
theorem dX8_judge_10 : decode cX8_judge 10 = .ok (.aload_n 0, 1) := by decide +kernel
theorem dX8_judge_11 : decode cX8_judge 11 = .ok (.iload_n 2, 1) := by decide +kernel
theorem dX8_judge_12 : decode cX8_judge 12 = .ok (.invokevirtual 106, 3) := by decide +kernel
theorem dX8_judge_15 : decode cX8_judge 15 = .ok (.ireturn, 1) := by decide +kernel
theorem dX8_judge_16 : decode cX8_judge 16 = .ok (.iconst 0, 1) := by decide +kernel
theorem dX8_judge_17 : decode cX8_judge 17 = .ok (.istore_n 3, 1) := by decide +kernel
theorem dX8_judge_18 : decode cX8_judge 18 = .ok (.iload_n 3, 1) := by decide +kernel
theorem dX8_judge_19 : decode cX8_judge 19 = .ok (.aload_n 0, 1) := by decide +kernel
theorem dX8_judge_20 : decode cX8_judge 20 = .ok (.getfield 44, 3) := by decide +kernel
theorem dX8_judge_23 : decode cX8_judge 23 = .ok (.iload_n 1, 1) := by decide +kernel
theorem dX8_judge_24 : decode cX8_judge 24 = .ok (.iaload, 1) := by decide +kernel
theorem dX8_judge_25 : decode cX8_judge 25 = .ok (.if_icmp .ge 63, 3) := by decide +kernel
theorem dX8_judge_28 : decode cX8_judge 28 = .ok (.aload_n 0, 1) := by decide +kernel
theorem dX8_judge_29 : decode cX8_judge 29 = .ok (.iload_n 1, 1) := by decide +kernel
theorem dX8_judge_30 : decode cX8_judge 30 = .ok (.iload_n 3, 1) := by decide +kernel
theorem dX8_judge_31 : decode cX8_judge 31 = .ok (.invokevirtual 187, 3) := by decide +kernel
theorem dX8_judge_34 : decode cX8_judge 34 = .ok (.invokestatic 102, 3) := by decide +kernel
theorem dX8_judge_37 : decode cX8_judge 37 = .ok (.ifCond .eq 33, 3) := by decide +kernel
theorem dX8_judge_40 : decode cX8_judge 40 = .ok (.iload_n 3, 1) := by decide +kernel
theorem dX8_judge_41 : decode cX8_judge 41 = .ok (.ifCond .eq 25, 3) := by decide +kernel
theorem dX8_judge_44 : decode cX8_judge 44 = .ok (.aload_n 0, 1) := by decide +kernel
theorem dX8_judge_45 : decode cX8_judge 45 = .ok (.aload_n 0, 1) := by decide +kernel
theorem dX8_judge_46 : decode cX8_judge 46 = .ok (.iload_n 1, 1) := by decide +kernel
theorem dX8_judge_47 : decode cX8_judge 47 = .ok (.iload_n 3, 1) := by decide +kernel
theorem dX8_judge_48 : decode cX8_judge 48 = .ok (.iconst 1, 1) := by decide +kernel
theorem dX8_judge_49 : decode cX8_judge 49 = .ok (.isub, 1) := by decide +kernel
theorem dX8_judge_50 : decode cX8_judge 50 = .ok (.invokevirtual 187, 3) := by decide +kernel
theorem dX8_judge_53 : decode cX8_judge 53 = .ok (.iconst 0, 1) := by decide +kernel
theorem dX8_judge_54 : decode cX8_judge 54 = .ok (.invokevirtual 66, 3) := by decide +kernel
theorem dX8_judge_57 : decode cX8_judge 57 = .ok (.aload_n 0, 1) := by decide +kernel
theorem dX8_judge_58 : decode cX8_judge 58 = .ok (.iload_n 1, 1) := by decide +kernel
theorem dX8_judge_59 : decode cX8_judge 59 = .ok (.iload_n 3, 1) := by decide +kernel
theorem dX8_judge_60 : decode cX8_judge 60 = .ok (.invokevirtual 187, 3) := by decide +kernel
theorem dX8_judge_63 : decode cX8_judge 63 = .ok (.if_icmp .ne 7, 3) := by decide +kernel
theorem dX8_judge_66 : decode cX8_judge 66 = .ok (.iconst 1, 1) := by decide +kernel
theorem dX8_judge_67 : decode cX8_judge 67 = .ok (.goto 4, 3) := by decide +kernel
theorem dX8_judge_70 : decode cX8_judge 70 = .ok (.iconst 0, 1) := by decide +kernel
theorem dX8_judge_71 : decode cX8_judge 71 = .ok (.istore 4, 2) := by decide +kernel
theorem dX8_judge_73 : decode cX8_judge 73 = .ok (.iload 4, 2) := by decide +kernel
theorem dX8_judge_75 : decode cX8_judge 75 = .ok (.ifCond .ne 7, 3) := by decide +kernel
theorem dX8_judge_78 : decode cX8_judge 78 = .ok (.iconst 1, 1) := by decide +kernel
theorem dX8_judge_79 : decode cX8_judge 79 = .ok (.iload_n 3, 1) := by decide +kernel
theorem dX8_judge_80 : decode cX8_judge 80 = .ok (.iadd, 1) := by decide +kernel
theorem dX8_judge_81 : decode cX8_judge 81 = .ok (.ireturn, 1) := by decide +kernel
theorem dX8_judge_82 : decode cX8_judge 82 = .ok (.iinc 3 1, 3) := by decide +kernel
theorem dX8_judge_85 : decode cX8_judge 85 = .ok (.goto (-67), 3) := by decide +kernel
theorem dX8_judge_88 : decode cX8_judge 88 = .ok (.iconst 0, 1) := by decide +kernel
theorem dX8_judge_89 : decode cX8_judge 89 = .ok (.ireturn, 1) := by decide +kernel
theorem dX8_image_0 : decode cX8_image 0 = .ok (.iconst 0, 1) := by decide +kernel
theorem dX8_image_1 : decode cX8_image 1 = .ok (.istore_n 1, 1) := by decide +kernel
theorem dX8_image_2 : decode cX8_image 2 = .ok (.iload_n 1, 1) := by decide +kernel
theorem dX8_image_3 : decode cX8_image 3 = .ok (.sipush 134, 3) := by decide +kernel
theorem dX8_image_6 : decode cX8_image 6 = .ok (.if_icmp .ge 21, 3) := by decide +kernel
theorem dX8_image_9 : decode cX8_image 9 = .ok (.aload_n 0, 1) := by decide +kernel
theorem dX8_image_10 : decode cX8_image 10 = .ok (.getfield 13, 3) := by decide +kernel
theorem dX8_image_13 : decode cX8_image 13 = .ok (.iload_n 1, 1) := by decide +kernel
theorem dX8_image_14 : decode cX8_image 14 = .ok (.aload_n 0, 1) := by decide +kernel
theorem dX8_image_15 : decode cX8_image 15 = .ok (.getfield 9, 3) := by decide +kernel
theorem dX8_image_18 : decode cX8_image 18 = .ok (.iload_n 1, 1) := by decide +kernel
theorem dX8_image_19 : decode cX8_image 19 = .ok (.iaload, 1) := by decide +kernel
theorem dX8_image_20 : decode cX8_image 20 = .ok (.iastore, 1) := by decide +kernel
theorem dX8_image_21 : decode cX8_image 21 = .ok (.iinc 1 1, 3) := by decide +kernel
theorem dX8_image_24 : decode cX8_image 24 = .ok (.goto (-22), 3) := by decide +kernel
theorem dX8_image_27 : decode cX8_image 27 = .ok (.aload_n 0, 1) := by decide +kernel
theorem dX8_image_28 : decode cX8_image 28 = .ok (.iconst 1, 1) := by decide +kernel
theorem dX8_image_29 : decode cX8_image 29 = .ok (.putfield 263, 3) := by decide +kernel
theorem dX8_image_32 : decode cX8_image 32 = .ok (.iconst 1, 1) := by decide +kernel
theorem dX8_image_33 : decode cX8_image 33 = .ok (.ireturn, 1) := by decide +kernel
theorem dX8_undo_0 : decode cX8_undo 0 = .ok (.aload_n 0, 1) := by decide +kernel
theorem dX8_undo_1 : decode cX8_undo 1 = .ok (.getfield 263, 3) := by decide +kernel
theorem dX8_undo_4 : decode cX8_undo 4 = .ok (.ifCond .ne 9, 3) := by decide +kernel
theorem dX8_undo_7 : decode cX8_undo 7 = .ok (.aload_n 0, 1) := by decide +kernel
theorem dX8_undo_8 : decode cX8_undo 8 = .ok (.iconst 3, 1) := by decide +kernel
theorem dX8_undo_9 : decode cX8_undo 9 = .ok (.invokevirtual 106, 3) := by decide +kernel
theorem dX8_undo_12 : decode cX8_undo 12 = .ok (.ireturn, 1) := by decide +kernel
theorem dX8_undo_13 : decode cX8_undo 13 = .ok (.iconst 0, 1) := by decide +kernel
theorem dX8_undo_14 : decode cX8_undo 14 = .ok (.istore_n 1, 1) := by decide +kernel
theorem dX8_undo_15 : decode cX8_undo 15 = .ok (.iload_n 1, 1) := by decide +kernel
theorem dX8_undo_16 : decode cX8_undo 16 = .ok (.sipush 134, 3) := by decide +kernel
theorem dX8_undo_19 : decode cX8_undo 19 = .ok (.if_icmp .ge 21, 3) := by decide +kernel
theorem dX8_undo_22 : decode cX8_undo 22 = .ok (.aload_n 0, 1) := by decide +kernel
theorem dX8_undo_23 : decode cX8_undo 23 = .ok (.getfield 9, 3) := by decide +kernel
theorem dX8_undo_26 : decode cX8_undo 26 = .ok (.iload_n 1, 1) := by decide +kernel
theorem dX8_undo_27 : decode cX8_undo 27 = .ok (.aload_n 0, 1) := by decide +kernel
theorem dX8_undo_28 : decode cX8_undo 28 = .ok (.getfield 13, 3) := by decide +kernel
theorem dX8_undo_31 : decode cX8_undo 31 = .ok (.iload_n 1, 1) := by decide +kernel
theorem dX8_undo_32 : decode cX8_undo 32 = .ok (.iaload, 1) := by decide +kernel
theorem dX8_undo_33 : decode cX8_undo 33 = .ok (.iastore, 1) := by decide +kernel
theorem dX8_undo_34 : decode cX8_undo 34 = .ok (.iinc 1 1, 3) := by decide +kernel
theorem dX8_undo_37 : decode cX8_undo 37 = .ok (.goto (-22), 3) := by decide +kernel
theorem dX8_undo_40 : decode cX8_undo 40 = .ok (.aload_n 0, 1) := by decide +kernel
theorem dX8_undo_41 : decode cX8_undo 41 = .ok (.getfield 9, 3) := by decide +kernel
theorem dX8_undo_44 : decode cX8_undo 44 = .ok (.iconst 0, 1) := by decide +kernel
theorem dX8_undo_45 : decode cX8_undo 45 = .ok (.iaload, 1) := by decide +kernel
theorem dX8_undo_46 : decode cX8_undo 46 = .ok (.ireturn, 1) := by decide +kernel
theorem dX8_tear_0 : decode cX8_tear 0 = .ok (.aload_n 0, 1) := by decide +kernel
theorem dX8_tear_1 : decode cX8_tear 1 = .ok (.getfield 263, 3) := by decide +kernel
theorem dX8_tear_4 : decode cX8_tear 4 = .ok (.ifCond .eq 7, 3) := by decide +kernel
theorem dX8_tear_7 : decode cX8_tear 7 = .ok (.iconst 1, 1) := by decide +kernel
theorem dX8_tear_8 : decode cX8_tear 8 = .ok (.goto 4, 3) := by decide +kernel
theorem dX8_tear_11 : decode cX8_tear 11 = .ok (.iconst 0, 1) := by decide +kernel
theorem dX8_tear_12 : decode cX8_tear 12 = .ok (.istore_n 1, 1) := by decide +kernel
theorem dX8_tear_13 : decode cX8_tear 13 = .ok (.aload_n 0, 1) := by decide +kernel
theorem dX8_tear_14 : decode cX8_tear 14 = .ok (.iconst 0, 1) := by decide +kernel
theorem dX8_tear_15 : decode cX8_tear 15 = .ok (.putfield 263, 3) := by decide +kernel
theorem dX8_tear_18 : decode cX8_tear 18 = .ok (.iload_n 1, 1) := by decide +kernel
theorem dX8_tear_19 : decode cX8_tear 19 = .ok (.ireturn, 1) := by decide +kernel
theorem dX8_count_0 : decode cX8_count 0 = .ok (.iconst 0, 1) := by decide +kernel
theorem dX8_count_1 : decode cX8_count 1 = .ok (.istore_n 2, 1) := by decide +kernel
theorem dX8_count_2 : decode cX8_count 2 = .ok (.iload_n 1, 1) := by decide +kernel
theorem dX8_count_3 : decode cX8_count 3 = .ok (.tableswitch 130 0 7 #[45, 52, 59, 68, 77, 82, 87, 94], 45) := by decide +kernel
theorem dX8_count_48 : decode cX8_count 48 = .ok (.aload_n 0, 1) := by decide +kernel
theorem dX8_count_49 : decode cX8_count 49 = .ok (.getfield 9, 3) := by decide +kernel
theorem dX8_count_52 : decode cX8_count 52 = .ok (.iconst 0, 1) := by decide +kernel
theorem dX8_count_53 : decode cX8_count 53 = .ok (.iaload, 1) := by decide +kernel
theorem dX8_count_54 : decode cX8_count 54 = .ok (.ireturn, 1) := by decide +kernel
theorem dX8_count_55 : decode cX8_count 55 = .ok (.aload_n 0, 1) := by decide +kernel
theorem dX8_count_56 : decode cX8_count 56 = .ok (.getfield 9, 3) := by decide +kernel
theorem dX8_count_59 : decode cX8_count 59 = .ok (.iconst 1, 1) := by decide +kernel
theorem dX8_count_60 : decode cX8_count 60 = .ok (.iaload, 1) := by decide +kernel
theorem dX8_count_61 : decode cX8_count 61 = .ok (.ireturn, 1) := by decide +kernel
theorem dX8_count_62 : decode cX8_count 62 = .ok (.aload_n 0, 1) := by decide +kernel
theorem dX8_count_63 : decode cX8_count 63 = .ok (.iconst 0, 1) := by decide +kernel
theorem dX8_count_64 : decode cX8_count 64 = .ok (.invokevirtual 122, 3) := by decide +kernel
theorem dX8_count_67 : decode cX8_count 67 = .ok (.invokestatic 159, 3) := by decide +kernel
theorem dX8_count_70 : decode cX8_count 70 = .ok (.ireturn, 1) := by decide +kernel
theorem dX8_count_71 : decode cX8_count 71 = .ok (.aload_n 0, 1) := by decide +kernel
theorem dX8_count_72 : decode cX8_count 72 = .ok (.iconst 1, 1) := by decide +kernel
theorem dX8_count_73 : decode cX8_count 73 = .ok (.invokevirtual 122, 3) := by decide +kernel
theorem dX8_count_76 : decode cX8_count 76 = .ok (.invokestatic 159, 3) := by decide +kernel
theorem dX8_count_79 : decode cX8_count 79 = .ok (.ireturn, 1) := by decide +kernel
theorem dX8_count_80 : decode cX8_count 80 = .ok (.aload_n 0, 1) := by decide +kernel
theorem dX8_count_81 : decode cX8_count 81 = .ok (.invokevirtual 126, 3) := by decide +kernel
theorem dX8_count_84 : decode cX8_count 84 = .ok (.ireturn, 1) := by decide +kernel
theorem dX8_count_85 : decode cX8_count 85 = .ok (.aload_n 0, 1) := by decide +kernel
theorem dX8_count_86 : decode cX8_count 86 = .ok (.getfield 203, 3) := by decide +kernel
theorem dX8_count_89 : decode cX8_count 89 = .ok (.ireturn, 1) := by decide +kernel
theorem dX8_count_90 : decode cX8_count 90 = .ok (.aload_n 0, 1) := by decide +kernel
theorem dX8_count_91 : decode cX8_count 91 = .ok (.getfield 9, 3) := by decide +kernel
theorem dX8_count_94 : decode cX8_count 94 = .ok (.iconst 2, 1) := by decide +kernel
theorem dX8_count_95 : decode cX8_count 95 = .ok (.iaload, 1) := by decide +kernel
theorem dX8_count_96 : decode cX8_count 96 = .ok (.ireturn, 1) := by decide +kernel
theorem dX8_count_97 : decode cX8_count 97 = .ok (.iconst 0, 1) := by decide +kernel
theorem dX8_count_98 : decode cX8_count 98 = .ok (.istore_n 3, 1) := by decide +kernel
theorem dX8_count_99 : decode cX8_count 99 = .ok (.iload_n 3, 1) := by decide +kernel
theorem dX8_count_100 : decode cX8_count 100 = .ok (.bipush 10, 2) := by decide +kernel
theorem dX8_count_102 : decode cX8_count 102 = .ok (.if_icmp .ge 29, 3) := by decide +kernel
theorem dX8_count_105 : decode cX8_count 105 = .ok (.iload_n 2, 1) := by decide +kernel
theorem dX8_count_106 : decode cX8_count 106 = .ok (.aload_n 0, 1) := by decide +kernel
theorem dX8_count_107 : decode cX8_count 107 = .ok (.getfield 9, 3) := by decide +kernel
theorem dX8_count_110 : decode cX8_count 110 = .ok (.bipush 124, 2) := by decide +kernel
theorem dX8_count_112 : decode cX8_count 112 = .ok (.iload_n 3, 1) := by decide +kernel
theorem dX8_count_113 : decode cX8_count 113 = .ok (.iadd, 1) := by decide +kernel
theorem dX8_count_114 : decode cX8_count 114 = .ok (.iaload, 1) := by decide +kernel
theorem dX8_count_115 : decode cX8_count 115 = .ok (.ifCond .lt 7, 3) := by decide +kernel
theorem dX8_count_118 : decode cX8_count 118 = .ok (.iconst 1, 1) := by decide +kernel
theorem dX8_count_119 : decode cX8_count 119 = .ok (.goto 4, 3) := by decide +kernel
theorem dX8_count_122 : decode cX8_count 122 = .ok (.iconst 0, 1) := by decide +kernel
theorem dX8_count_123 : decode cX8_count 123 = .ok (.iadd, 1) := by decide +kernel
theorem dX8_count_124 : decode cX8_count 124 = .ok (.istore_n 2, 1) := by decide +kernel
theorem dX8_count_125 : decode cX8_count 125 = .ok (.iinc 3 1, 3) := by decide +kernel
theorem dX8_count_128 : decode cX8_count 128 = .ok (.goto (-29), 3) := by decide +kernel
theorem dX8_count_131 : decode cX8_count 131 = .ok (.iload_n 2, 1) := by decide +kernel
theorem dX8_count_132 : decode cX8_count 132 = .ok (.ireturn, 1) := by decide +kernel
theorem dX8_count_133 : decode cX8_count 133 = .ok (.aload_n 0, 1) := by decide +kernel
theorem dX8_count_134 : decode cX8_count 134 = .ok (.iconst 0, 1) := by decide +kernel
theorem dX8_count_135 : decode cX8_count 135 = .ok (.invokevirtual 106, 3) := by decide +kernel
theorem dX8_count_138 : decode cX8_count 138 = .ok (.ireturn, 1) := by decide +kernel
theorem dX8_status_0 : decode cX8_status 0 = .ok (.iload_n 1, 1) := by decide +kernel
theorem dX8_status_1 : decode cX8_status 1 = .ok (.iconst (-1), 1) := by decide +kernel
theorem dX8_status_2 : decode cX8_status 2 = .ok (.bipush 6, 2) := by decide +kernel
theorem dX8_status_4 : decode cX8_status 4 = .ok (.invokestatic 58, 3) := by decide +kernel
theorem dX8_status_7 : decode cX8_status 7 = .ok (.ifCond .ne 9, 3) := by decide +kernel
theorem dX8_status_10 : decode cX8_status 10 = .ok (.aload_n 0, 1) := by decide +kernel
theorem dX8_status_11 : decode cX8_status 11 = .ok (.iconst 0, 1) := by decide +kernel
theorem dX8_status_12 : decode cX8_status 12 = .ok (.invokevirtual 106, 3) := by decide +kernel
theorem dX8_status_15 : decode cX8_status 15 = .ok (.ireturn, 1) := by decide +kernel
theorem dX8_status_16 : decode cX8_status 16 = .ok (.iconst 0, 1) := by decide +kernel
theorem dX8_status_17 : decode cX8_status 17 = .ok (.istore_n 2, 1) := by decide +kernel
theorem dX8_status_18 : decode cX8_status 18 = .ok (.iconst 0, 1) := by decide +kernel
theorem dX8_status_19 : decode cX8_status 19 = .ok (.istore_n 3, 1) := by decide +kernel
theorem dX8_status_20 : decode cX8_status 20 = .ok (.iload_n 3, 1) := by decide +kernel
theorem dX8_status_21 : decode cX8_status 21 = .ok (.bipush 7, 2) := by decide +kernel
theorem dX8_status_23 : decode cX8_status 23 = .ok (.if_icmp .ge 32, 3) := by decide +kernel
theorem dX8_status_26 : decode cX8_status 26 = .ok (.iload_n 2, 1) := by decide +kernel
theorem dX8_status_27 : decode cX8_status 27 = .ok (.iload_n 1, 1) := by decide +kernel
theorem dX8_status_28 : decode cX8_status 28 = .ok (.iconst (-1), 1) := by decide +kernel
theorem dX8_status_29 : decode cX8_status 29 = .ok (.if_icmp .eq 8, 3) := by decide +kernel
theorem dX8_status_32 : decode cX8_status 32 = .ok (.iload_n 1, 1) := by decide +kernel
theorem dX8_status_33 : decode cX8_status 33 = .ok (.iload_n 3, 1) := by decide +kernel
theorem dX8_status_34 : decode cX8_status 34 = .ok (.if_icmp .ne 12, 3) := by decide +kernel
theorem dX8_status_37 : decode cX8_status 37 = .ok (.aload_n 0, 1) := by decide +kernel
theorem dX8_status_38 : decode cX8_status 38 = .ok (.getfield 19, 3) := by decide +kernel
theorem dX8_status_41 : decode cX8_status 41 = .ok (.iload_n 3, 1) := by decide +kernel
theorem dX8_status_42 : decode cX8_status 42 = .ok (.iaload, 1) := by decide +kernel
theorem dX8_status_43 : decode cX8_status 43 = .ok (.goto 4, 3) := by decide +kernel
theorem dX8_status_46 : decode cX8_status 46 = .ok (.iconst 0, 1) := by decide +kernel
theorem dX8_status_47 : decode cX8_status 47 = .ok (.iadd, 1) := by decide +kernel
theorem dX8_status_48 : decode cX8_status 48 = .ok (.istore_n 2, 1) := by decide +kernel
theorem dX8_status_49 : decode cX8_status 49 = .ok (.iinc 3 1, 3) := by decide +kernel
theorem dX8_status_52 : decode cX8_status 52 = .ok (.goto (-32), 3) := by decide +kernel
theorem dX8_status_55 : decode cX8_status 55 = .ok (.iload_n 2, 1) := by decide +kernel
theorem dX8_status_56 : decode cX8_status 56 = .ok (.ireturn, 1) := by decide +kernel
