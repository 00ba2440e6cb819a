theorem dX2_init_0 : decode cX2_init 0 = .ok (.aload_n 0, 1) := by decide +kernel
theorem dX2_init_1 : decode cX2_init 1 = .ok (.invokespecial 1, 3) := by decide +kernel
theorem dX2_init_4 : decode cX2_init 4 = .ok (.aload_n 0, 1) := by decide +kernel
theorem dX2_init_5 : decode cX2_init 5 = .ok (.bipush 32, 2) := by decide +kernel
theorem dX2_init_7 : decode cX2_init 7 = .ok (.newarray .int, 2) := by decide +kernel
theorem dX2_init_9 : decode cX2_init 9 = .ok (.putfield 7, 3) := by decide +kernel
theorem dX2_init_12 : decode cX2_init 12 = .ok (.aload_n 0, 1) := by decide +kernel
theorem dX2_init_13 : decode cX2_init 13 = .ok (.bipush 8, 2) := by decide +kernel
theorem dX2_init_15 : decode cX2_init 15 = .ok (.newarray .int, 2) := by decide +kernel
theorem dX2_init_17 : decode cX2_init 17 = .ok (.putfield 13, 3) := by decide +kernel
theorem dX2_init_20 : decode cX2_init 20 = .ok (.aload_n 0, 1) := by decide +kernel
theorem dX2_init_21 : decode cX2_init 21 = .ok (.bipush 16, 2) := by decide +kernel
theorem dX2_init_23 : decode cX2_init 23 = .ok (.newarray .int, 2) := by decide +kernel
theorem dX2_init_25 : decode cX2_init 25 = .ok (.putfield 16, 3) := by decide +kernel
theorem dX2_init_28 : decode cX2_init 28 = .ok (.aload_n 0, 1) := by decide +kernel
theorem dX2_init_29 : decode cX2_init 29 = .ok (.bipush 16, 2) := by decide +kernel
theorem dX2_init_31 : decode cX2_init 31 = .ok (.newarray .int, 2) := by decide +kernel
theorem dX2_init_33 : decode cX2_init 33 = .ok (.putfield 19, 3) := by decide +kernel
theorem dX2_init_36 : decode cX2_init 36 = .ok (.aload_n 0, 1) := by decide +kernel
theorem dX2_init_37 : decode cX2_init 37 = .ok (.bipush 64, 2) := by decide +kernel
theorem dX2_init_39 : decode cX2_init 39 = .ok (.newarray .int, 2) := by decide +kernel
theorem dX2_init_41 : decode cX2_init 41 = .ok (.putfield 22, 3) := by decide +kernel
theorem dX2_init_44 : decode cX2_init 44 = .ok (.aload_n 0, 1) := by decide +kernel
theorem dX2_init_45 : decode cX2_init 45 = .ok (.sipush 160, 3) := by decide +kernel
theorem dX2_init_48 : decode cX2_init 48 = .ok (.newarray .int, 2) := by decide +kernel
theorem dX2_init_50 : decode cX2_init 50 = .ok (.dup, 1) := by decide +kernel
theorem dX2_init_51 : decode cX2_init 51 = .ok (.iconst 0, 1) := by decide +kernel
theorem dX2_init_52 : decode cX2_init 52 = .ok (.iconst 0, 1) := by decide +kernel
theorem dX2_init_53 : decode cX2_init 53 = .ok (.iastore, 1) := by decide +kernel
theorem dX2_init_54 : decode cX2_init 54 = .ok (.dup, 1) := by decide +kernel
theorem dX2_init_55 : decode cX2_init 55 = .ok (.iconst 1, 1) := by decide +kernel
theorem dX2_init_56 : decode cX2_init 56 = .ok (.iconst 1, 1) := by decide +kernel
theorem dX2_init_57 : decode cX2_init 57 = .ok (.iastore, 1) := by decide +kernel
theorem dX2_init_58 : decode cX2_init 58 = .ok (.dup, 1) := by decide +kernel
theorem dX2_init_59 : decode cX2_init 59 = .ok (.iconst 2, 1) := by decide +kernel
theorem dX2_init_60 : decode cX2_init 60 = .ok (.iconst 2, 1) := by decide +kernel
theorem dX2_init_61 : decode cX2_init 61 = .ok (.iastore, 1) := by decide +kernel
theorem dX2_init_62 : decode cX2_init 62 = .ok (.dup, 1) := by decide +kernel
theorem dX2_init_63 : decode cX2_init 63 = .ok (.iconst 3, 1) := by decide +kernel
theorem dX2_init_64 : decode cX2_init 64 = .ok (.iconst 3, 1) := by decide +kernel
theorem dX2_init_65 : decode cX2_init 65 = .ok (.iastore, 1) := by decide +kernel
theorem dX2_init_66 : decode cX2_init 66 = .ok (.dup, 1) := by decide +kernel
theorem dX2_init_67 : decode cX2_init 67 = .ok (.iconst 4, 1) := by decide +kernel
theorem dX2_init_68 : decode cX2_init 68 = .ok (.iconst 4, 1) := by decide +kernel
theorem dX2_init_69 : decode cX2_init 69 = .ok (.iastore, 1) := by decide +kernel
theorem dX2_init_70 : decode cX2_init 70 = .ok (.dup, 1) := by decide +kernel
theorem dX2_init_71 : decode cX2_init 71 = .ok (.iconst 5, 1) := by decide +kernel
theorem dX2_init_72 : decode cX2_init 72 = .ok (.iconst 5, 1) := by decide +kernel
theorem dX2_init_73 : decode cX2_init 73 = .ok (.iastore, 1) := by decide +kernel
theorem dX2_init_74 : decode cX2_init 74 = .ok (.dup, 1) := by decide +kernel
theorem dX2_init_75 : decode cX2_init 75 = .ok (.bipush 6, 2) := by decide +kernel
theorem dX2_init_77 : decode cX2_init 77 = .ok (.bipush 6, 2) := by decide +kernel
theorem dX2_init_79 : decode cX2_init 79 = .ok (.iastore, 1) := by decide +kernel
theorem dX2_init_80 : decode cX2_init 80 = .ok (.dup, 1) := by decide +kernel
theorem dX2_init_81 : decode cX2_init 81 = .ok (.bipush 7, 2) := by decide +kernel
theorem dX2_init_83 : decode cX2_init 83 = .ok (.bipush 7, 2) := by decide +kernel
theorem dX2_init_85 : decode cX2_init 85 = .ok (.iastore, 1) := by decide +kernel
theorem dX2_init_86 : decode cX2_init 86 = .ok (.dup, 1) := by decide +kernel
theorem dX2_init_87 : decode cX2_init 87 = .ok (.bipush 8, 2) := by decide +kernel
theorem dX2_init_89 : decode cX2_init 89 = .ok (.bipush 8, 2) := by decide +kernel
theorem dX2_init_91 : decode cX2_init 91 = .ok (.iastore, 1) := by decide +kernel
theorem dX2_init_92 : decode cX2_init 92 = .ok (.dup, 1) := by decide +kernel
theorem dX2_init_93 : decode cX2_init 93 = .ok (.bipush 9, 2) := by decide +kernel
theorem dX2_init_95 : decode cX2_init 95 = .ok (.bipush 9, 2) := by decide +kernel
theorem dX2_init_97 : decode cX2_init 97 = .ok (.iastore, 1) := by decide +kernel
theorem dX2_init_98 : decode cX2_init 98 = .ok (.dup, 1) := by decide +kernel
theorem dX2_init_99 : decode cX2_init 99 = .ok (.bipush 10, 2) := by decide +kernel
theorem dX2_init_101 : decode cX2_init 101 = .ok (.bipush 10, 2) := by decide +kernel
theorem dX2_init_103 : decode cX2_init 103 = .ok (.iastore, 1) := by decide +kernel
theorem dX2_init_104 : decode cX2_init 104 = .ok (.dup, 1) := by decide +kernel
theorem dX2_init_105 : decode cX2_init 105 = .ok (.bipush 11, 2) := by decide +kernel
theorem dX2_init_107 : decode cX2_init 107 = .ok (.bipush 11, 2) := by decide +kernel
theorem dX2_init_109 : decode cX2_init 109 = .ok (.iastore, 1) := by decide +kernel
theorem dX2_init_110 : decode cX2_init 110 = .ok (.dup, 1) := by decide +kernel
theorem dX2_init_111 : decode cX2_init 111 = .ok (.bipush 12, 2) := by decide +kernel
theorem dX2_init_113 : decode cX2_init 113 = .ok (.bipush 12, 2) := by decide +kernel
theorem dX2_init_115 : decode cX2_init 115 = .ok (.iastore, 1) := by decide +kernel
theorem dX2_init_116 : decode cX2_init 116 = .ok (.dup, 1) := by decide +kernel
theorem dX2_init_117 : decode cX2_init 117 = .ok (.bipush 13, 2) := by decide +kernel
theorem dX2_init_119 : decode cX2_init 119 = .ok (.bipush 13, 2) := by decide +kernel
theorem dX2_init_121 : decode cX2_init 121 = .ok (.iastore, 1) := by decide +kernel
theorem dX2_init_122 : decode cX2_init 122 = .ok (.dup, 1) := by decide +kernel
theorem dX2_init_123 : decode cX2_init 123 = .ok (.bipush 14, 2) := by decide +kernel
theorem dX2_init_125 : decode cX2_init 125 = .ok (.bipush 14, 2) := by decide +kernel
theorem dX2_init_127 : decode cX2_init 127 = .ok (.iastore, 1) := by decide +kernel
theorem dX2_init_128 : decode cX2_init 128 = .ok (.dup, 1) := by decide +kernel
theorem dX2_init_129 : decode cX2_init 129 = .ok (.bipush 15, 2) := by decide +kernel
theorem dX2_init_131 : decode cX2_init 131 = .ok (.bipush 15, 2) := by decide +kernel
theorem dX2_init_133 : decode cX2_init 133 = .ok (.iastore, 1) := by decide +kernel
theorem dX2_init_134 : decode cX2_init 134 = .ok (.dup, 1) := by decide +kernel
theorem dX2_init_135 : decode cX2_init 135 = .ok (.bipush 16, 2) := by decide +kernel
theorem dX2_init_137 : decode cX2_init 137 = .ok (.bipush 14, 2) := by decide +kernel
theorem dX2_init_139 : decode cX2_init 139 = .ok (.iastore, 1) := by decide +kernel
theorem dX2_init_140 : decode cX2_init 140 = .ok (.dup, 1) := by decide +kernel
theorem dX2_init_141 : decode cX2_init 141 = .ok (.bipush 17, 2) := by decide +kernel
theorem dX2_init_143 : decode cX2_init 143 = .ok (.bipush 10, 2) := by decide +kernel
theorem dX2_init_145 : decode cX2_init 145 = .ok (.iastore, 1) := by decide +kernel
theorem dX2_init_146 : decode cX2_init 146 = .ok (.dup, 1) := by decide +kernel
theorem dX2_init_147 : decode cX2_init 147 = .ok (.bipush 18, 2) := by decide +kernel
theorem dX2_init_149 : decode cX2_init 149 = .ok (.iconst 4, 1) := by decide +kernel
theorem dX2_init_150 : decode cX2_init 150 = .ok (.iastore, 1) := by decide +kernel
theorem dX2_init_151 : decode cX2_init 151 = .ok (.dup, 1) := by decide +kernel
theorem dX2_init_152 : decode cX2_init 152 = .ok (.bipush 19, 2) := by decide +kernel
theorem dX2_init_154 : decode cX2_init 154 = .ok (.bipush 8, 2) := by decide +kernel
theorem dX2_init_156 : decode cX2_init 156 = .ok (.iastore, 1) := by decide +kernel
theorem dX2_init_157 : decode cX2_init 157 = .ok (.dup, 1) := by decide +kernel
theorem dX2_init_158 : decode cX2_init 158 = .ok (.bipush 20, 2) := by decide +kernel
theorem dX2_init_160 : decode cX2_init 160 = .ok (.bipush 9, 2) := by decide +kernel
theorem dX2_init_162 : decode cX2_init 162 = .ok (.iastore, 1) := by decide +kernel
theorem dX2_init_163 : decode cX2_init 163 = .ok (.dup, 1) := by decide +kernel
theorem dX2_init_164 : decode cX2_init 164 = .ok (.bipush 21, 2) := by decide +kernel
theorem dX2_init_166 : decode cX2_init 166 = .ok (.bipush 15, 2) := by decide +kernel
theorem dX2_init_168 : decode cX2_init 168 = .ok (.iastore, 1) := by decide +kernel
theorem dX2_init_169 : decode cX2_init 169 = .ok (.dup, 1) := by decide +kernel
theorem dX2_init_170 : decode cX2_init 170 = .ok (.bipush 22, 2) := by decide +kernel
theorem dX2_init_172 : decode cX2_init 172 = .ok (.bipush 13, 2) := by decide +kernel
theorem dX2_init_174 : decode cX2_init 174 = .ok (.iastore, 1) := by decide +kernel
theorem dX2_init_175 : decode cX2_init 175 = .ok (.dup, 1) := by decide +kernel
theorem dX2_init_176 : decode cX2_init 176 = .ok (.bipush 23, 2) := by decide +kernel
theorem dX2_init_178 : decode cX2_init 178 = .ok (.bipush 6, 2) := by decide +kernel
theorem dX2_init_180 : decode cX2_init 180 = .ok (.iastore, 1) := by decide +kernel
theorem dX2_init_181 : decode cX2_init 181 = .ok (.dup, 1) := by decide +kernel
theorem dX2_init_182 : decode cX2_init 182 = .ok (.bipush 24, 2) := by decide +kernel
theorem dX2_init_184 : decode cX2_init 184 = .ok (.iconst 1, 1) := by decide +kernel
theorem dX2_init_185 : decode cX2_init 185 = .ok (.iastore, 1) := by decide +kernel
theorem dX2_init_186 : decode cX2_init 186 = .ok (.dup, 1) := by decide +kernel
theorem dX2_init_187 : decode cX2_init 187 = .ok (.bipush 25, 2) := by decide +kernel
theorem dX2_init_189 : decode cX2_init 189 = .ok (.bipush 12, 2) := by decide +kernel
theorem dX2_init_191 : decode cX2_init 191 = .ok (.iastore, 1) := by decide +kernel
theorem dX2_init_192 : decode cX2_init 192 = .ok (.dup, 1) := by decide +kernel
theorem dX2_init_193 : decode cX2_init 193 = .ok (.bipush 26, 2) := by decide +kernel
theorem dX2_init_195 : decode cX2_init 195 = .ok (.iconst 0, 1) := by decide +kernel
theorem dX2_init_196 : decode cX2_init 196 = .ok (.iastore, 1) := by decide +kernel
theorem dX2_init_197 : decode cX2_init 197 = .ok (.dup, 1) := by decide +kernel
theorem dX2_init_198 : decode cX2_init 198 = .ok (.bipush 27, 2) := by decide +kernel
theorem dX2_init_200 : decode cX2_init 200 = .ok (.iconst 2, 1) := by decide +kernel
theorem dX2_init_201 : decode cX2_init 201 = .ok (.iastore, 1) := by decide +kernel
theorem dX2_init_202 : decode cX2_init 202 = .ok (.dup, 1) := by decide +kernel
theorem dX2_init_203 : decode cX2_init 203 = .ok (.bipush 28, 2) := by decide +kernel
theorem dX2_init_205 : decode cX2_init 205 = .ok (.bipush 11, 2) := by decide +kernel
theorem dX2_init_207 : decode cX2_init 207 = .ok (.iastore, 1) := by decide +kernel
theorem dX2_init_208 : decode cX2_init 208 = .ok (.dup, 1) := by decide +kernel
theorem dX2_init_209 : decode cX2_init 209 = .ok (.bipush 29, 2) := by decide +kernel
theorem dX2_init_211 : decode cX2_init 211 = .ok (.bipush 7, 2) := by decide +kernel
theorem dX2_init_213 : decode cX2_init 213 = .ok (.iastore, 1) := by decide +kernel
theorem dX2_init_214 : decode cX2_init 214 = .ok (.dup, 1) := by decide +kernel
theorem dX2_init_215 : decode cX2_init 215 = .ok (.bipush 30, 2) := by decide +kernel
theorem dX2_init_217 : decode cX2_init 217 = .ok (.iconst 5, 1) := by decide +kernel
theorem dX2_init_218 : decode cX2_init 218 = .ok (.iastore, 1) := by decide +kernel
theorem dX2_init_219 : decode cX2_init 219 = .ok (.dup, 1) := by decide +kernel
theorem dX2_init_220 : decode cX2_init 220 = .ok (.bipush 31, 2) := by decide +kernel
theorem dX2_init_222 : decode cX2_init 222 = .ok (.iconst 3, 1) := by decide +kernel
theorem dX2_init_223 : decode cX2_init 223 = .ok (.iastore, 1) := by decide +kernel
theorem dX2_init_224 : decode cX2_init 224 = .ok (.dup, 1) := by decide +kernel
theorem dX2_init_225 : decode cX2_init 225 = .ok (.bipush 32, 2) := by decide +kernel
theorem dX2_init_227 : decode cX2_init 227 = .ok (.bipush 11, 2) := by decide +kernel
theorem dX2_init_229 : decode cX2_init 229 = .ok (.iastore, 1) := by decide +kernel
theorem dX2_init_230 : decode cX2_init 230 = .ok (.dup, 1) := by decide +kernel
theorem dX2_init_231 : decode cX2_init 231 = .ok (.bipush 33, 2) := by decide +kernel
theorem dX2_init_233 : decode cX2_init 233 = .ok (.bipush 8, 2) := by decide +kernel
theorem dX2_init_235 : decode cX2_init 235 = .ok (.iastore, 1) := by decide +kernel
theorem dX2_init_236 : decode cX2_init 236 = .ok (.dup, 1) := by decide +kernel
theorem dX2_init_237 : decode cX2_init 237 = .ok (.bipush 34, 2) := by decide +kernel
theorem dX2_init_239 : decode cX2_init 239 = .ok (.bipush 12, 2) := by decide +kernel
theorem dX2_init_241 : decode cX2_init 241 = .ok (.iastore, 1) := by decide +kernel
theorem dX2_init_242 : decode cX2_init 242 = .ok (.dup, 1) := by decide +kernel
theorem dX2_init_243 : decode cX2_init 243 = .ok (.bipush 35, 2) := by decide +kernel
theorem dX2_init_245 : decode cX2_init 245 = .ok (.iconst 0, 1) := by decide +kernel
theorem dX2_init_246 : decode cX2_init 246 = .ok (.iastore, 1) := by decide +kernel
theorem dX2_init_247 : decode cX2_init 247 = .ok (.dup, 1) := by decide +kernel
theorem dX2_init_248 : decode cX2_init 248 = .ok (.bipush 36, 2) := by decide +kernel
theorem dX2_init_250 : decode cX2_init 250 = .ok (.iconst 5, 1) := by decide +kernel
theorem dX2_init_251 : decode cX2_init 251 = .ok (.iastore, 1) := by decide +kernel
theorem dX2_init_252 : decode cX2_init 252 = .ok (.dup, 1) := by decide +kernel
theorem dX2_init_253 : decode cX2_init 253 = .ok (.bipush 37, 2) := by decide +kernel
theorem dX2_init_255 : decode cX2_init 255 = .ok (.iconst 2, 1) := by decide +kernel
theorem dX2_init_256 : decode cX2_init 256 = .ok (.iastore, 1) := by decide +kernel
theorem dX2_init_257 : decode cX2_init 257 = .ok (.dup, 1) := by decide +kernel
theorem dX2_init_258 : decode cX2_init 258 = .ok (.bipush 38, 2) := by decide +kernel
theorem dX2_init_260 : decode cX2_init 260 = .ok (.bipush 15, 2) := by decide +kernel
theorem dX2_init_262 : decode cX2_init 262 = .ok (.iastore, 1) := by decide +kernel
theorem dX2_init_263 : decode cX2_init 263 = .ok (.dup, 1) := by decide +kernel
theorem dX2_init_264 : decode cX2_init 264 = .ok (.bipush 39, 2) := by decide +kernel
theorem dX2_init_266 : decode cX2_init 266 = .ok (.bipush 13, 2) := by decide +kernel
theorem dX2_init_268 : decode cX2_init 268 = .ok (.iastore, 1) := by decide +kernel
theorem dX2_init_269 : decode cX2_init 269 = .ok (.dup, 1) := by decide +kernel
theorem dX2_init_270 : decode cX2_init 270 = .ok (.bipush 40, 2) := by decide +kernel
theorem dX2_init_272 : decode cX2_init 272 = .ok (.bipush 10, 2) := by decide +kernel
theorem dX2_init_274 : decode cX2_init 274 = .ok (.iastore, 1) := by decide +kernel
theorem dX2_init_275 : decode cX2_init 275 = .ok (.dup, 1) := by decide +kernel
theorem dX2_init_276 : decode cX2_init 276 = .ok (.bipush 41, 2) := by decide +kernel
theorem dX2_init_278 : decode cX2_init 278 = .ok (.bipush 14, 2) := by decide +kernel
theorem dX2_init_280 : decode cX2_init 280 = .ok (.iastore, 1) := by decide +kernel
theorem dX2_init_281 : decode cX2_init 281 = .ok (.dup, 1) := by decide +kernel
theorem dX2_init_282 : decode cX2_init 282 = .ok (.bipush 42, 2) := by decide +kernel
theorem dX2_init_284 : decode cX2_init 284 = .ok (.iconst 3, 1) := by decide +kernel
theorem dX2_init_285 : decode cX2_init 285 = .ok (.iastore, 1) := by decide +kernel
theorem dX2_init_286 : decode cX2_init 286 = .ok (.dup, 1) := by decide +kernel
theorem dX2_init_287 : decode cX2_init 287 = .ok (.bipush 43, 2) := by decide +kernel
theorem dX2_init_289 : decode cX2_init 289 = .ok (.bipush 6, 2) := by decide +kernel
theorem dX2_init_291 : decode cX2_init 291 = .ok (.iastore, 1) := by decide +kernel
theorem dX2_init_292 : decode cX2_init 292 = .ok (.dup, 1) := by decide +kernel
theorem dX2_init_293 : decode cX2_init 293 = .ok (.bipush 44, 2) := by decide +kernel
theorem dX2_init_295 : decode cX2_init 295 = .ok (.bipush 7, 2) := by decide +kernel
theorem dX2_init_297 : decode cX2_init 297 = .ok (.iastore, 1) := by decide +kernel
theorem dX2_init_298 : decode cX2_init 298 = .ok (.dup, 1) := by decide +kernel
theorem dX2_init_299 : decode cX2_init 299 = .ok (.bipush 45, 2) := by decide +kernel
theorem dX2_init_301 : decode cX2_init 301 = .ok (.iconst 1, 1) := by decide +kernel
theorem dX2_init_302 : decode cX2_init 302 = .ok (.iastore, 1) := by decide +kernel
theorem dX2_init_303 : decode cX2_init 303 = .ok (.dup, 1) := by decide +kernel
theorem dX2_init_304 : decode cX2_init 304 = .ok (.bipush 46, 2) := by decide +kernel
theorem dX2_init_306 : decode cX2_init 306 = .ok (.bipush 9, 2) := by decide +kernel
theorem dX2_init_308 : decode cX2_init 308 = .ok (.iastore, 1) := by decide +kernel
theorem dX2_init_309 : decode cX2_init 309 = .ok (.dup, 1) := by decide +kernel
theorem dX2_init_310 : decode cX2_init 310 = .ok (.bipush 47, 2) := by decide +kernel
theorem dX2_init_312 : decode cX2_init 312 = .ok (.iconst 4, 1) := by decide +kernel
theorem dX2_init_313 : decode cX2_init 313 = .ok (.iastore, 1) := by decide +kernel
theorem dX2_init_314 : decode cX2_init 314 = .ok (.dup, 1) := by decide +kernel
theorem dX2_init_315 : decode cX2_init 315 = .ok (.bipush 48, 2) := by decide +kernel
theorem dX2_init_317 : decode cX2_init 317 = .ok (.bipush 7, 2) := by decide +kernel
theorem dX2_init_319 : decode cX2_init 319 = .ok (.iastore, 1) := by decide +kernel
theorem dX2_init_320 : decode cX2_init 320 = .ok (.dup, 1) := by decide +kernel
theorem dX2_init_321 : decode cX2_init 321 = .ok (.bipush 49, 2) := by decide +kernel
theorem dX2_init_323 : decode cX2_init 323 = .ok (.bipush 9, 2) := by decide +kernel
theorem dX2_init_325 : decode cX2_init 325 = .ok (.iastore, 1) := by decide +kernel
theorem dX2_init_326 : decode cX2_init 326 = .ok (.dup, 1) := by decide +kernel
theorem dX2_init_327 : decode cX2_init 327 = .ok (.bipush 50, 2) := by decide +kernel
theorem dX2_init_329 : decode cX2_init 329 = .ok (.iconst 3, 1) := by decide +kernel
theorem dX2_init_330 : decode cX2_init 330 = .ok (.iastore, 1) := by decide +kernel
theorem dX2_init_331 : decode cX2_init 331 = .ok (.dup, 1) := by decide +kernel
theorem dX2_init_332 : decode cX2_init 332 = .ok (.bipush 51, 2) := by decide +kernel
theorem dX2_init_334 : decode cX2_init 334 = .ok (.iconst 1, 1) := by decide +kernel
theorem dX2_init_335 : decode cX2_init 335 = .ok (.iastore, 1) := by decide +kernel
theorem dX2_init_336 : decode cX2_init 336 = .ok (.dup, 1) := by decide +kernel
theorem dX2_init_337 : decode cX2_init 337 = .ok (.bipush 52, 2) := by decide +kernel
theorem dX2_init_339 : decode cX2_init 339 = .ok (.bipush 13, 2) := by decide +kernel
theorem dX2_init_341 : decode cX2_init 341 = .ok (.iastore, 1) := by decide +kernel
theorem dX2_init_342 : decode cX2_init 342 = .ok (.dup, 1) := by decide +kernel
theorem dX2_init_343 : decode cX2_init 343 = .ok (.bipush 53, 2) := by decide +kernel
theorem dX2_init_345 : decode cX2_init 345 = .ok (.bipush 12, 2) := by decide +kernel
theorem dX2_init_347 : decode cX2_init 347 = .ok (.iastore, 1) := by decide +kernel
theorem dX2_init_348 : decode cX2_init 348 = .ok (.dup, 1) := by decide +kernel
theorem dX2_init_349 : decode cX2_init 349 = .ok (.bipush 54, 2) := by decide +kernel
theorem dX2_init_351 : decode cX2_init 351 = .ok (.bipush 11, 2) := by decide +kernel
theorem dX2_init_353 : decode cX2_init 353 = .ok (.iastore, 1) := by decide +kernel
theorem dX2_init_354 : decode cX2_init 354 = .ok (.dup, 1) := by decide +kernel
theorem dX2_init_355 : decode cX2_init 355 = .ok (.bipush 55, 2) := by decide +kernel
theorem dX2_init_357 : decode cX2_init 357 = .ok (.bipush 14, 2) := by decide +kernel
theorem dX2_init_359 : decode cX2_init 359 = .ok (.iastore, 1) := by decide +kernel
theorem dX2_init_360 : decode cX2_init 360 = .ok (.dup, 1) := by decide +kernel
theorem dX2_init_361 : decode cX2_init 361 = .ok (.bipush 56, 2) := by decide +kernel
theorem dX2_init_363 : decode cX2_init 363 = .ok (.iconst 2, 1) := by decide +kernel
theorem dX2_init_364 : decode cX2_init 364 = .ok (.iastore, 1) := by decide +kernel
theorem dX2_init_365 : decode cX2_init 365 = .ok (.dup, 1) := by decide +kernel
theorem dX2_init_366 : decode cX2_init 366 = .ok (.bipush 57, 2) := by decide +kernel
theorem dX2_init_368 : decode cX2_init 368 = .ok (.bipush 6, 2) := by decide +kernel
theorem dX2_init_370 : decode cX2_init 370 = .ok (.iastore, 1) := by decide +kernel
theorem dX2_init_371 : decode cX2_init 371 = .ok (.dup, 1) := by decide +kernel
theorem dX2_init_372 : decode cX2_init 372 = .ok (.bipush 58, 2) := by decide +kernel
theorem dX2_init_374 : decode cX2_init 374 = .ok (.iconst 5, 1) := by decide +kernel
theorem dX2_init_375 : decode cX2_init 375 = .ok (.iastore, 1) := by decide +kernel
theorem dX2_init_376 : decode cX2_init 376 = .ok (.dup, 1) := by decide +kernel
theorem dX2_init_377 : decode cX2_init 377 = .ok (.bipush 59, 2) := by decide +kernel
theorem dX2_init_379 : decode cX2_init 379 = .ok (.bipush 10, 2) := by decide +kernel
theorem dX2_init_381 : decode cX2_init 381 = .ok (.iastore, 1) := by decide +kernel
theorem dX2_init_382 : decode cX2_init 382 = .ok (.dup, 1) := by decide +kernel
theorem dX2_init_383 : decode cX2_init 383 = .ok (.bipush 60, 2) := by decide +kernel
theorem dX2_init_385 : decode cX2_init 385 = .ok (.iconst 4, 1) := by decide +kernel
theorem dX2_init_386 : decode cX2_init 386 = .ok (.iastore, 1) := by decide +kernel
theorem dX2_init_387 : decode cX2_init 387 = .ok (.dup, 1) := by decide +kernel
theorem dX2_init_388 : decode cX2_init 388 = .ok (.bipush 61, 2) := by decide +kernel
theorem dX2_init_390 : decode cX2_init 390 = .ok (.iconst 0, 1) := by decide +kernel
theorem dX2_init_391 : decode cX2_init 391 = .ok (.iastore, 1) := by decide +kernel
theorem dX2_init_392 : decode cX2_init 392 = .ok (.dup, 1) := by decide +kernel
theorem dX2_init_393 : decode cX2_init 393 = .ok (.bipush 62, 2) := by decide +kernel
theorem dX2_init_395 : decode cX2_init 395 = .ok (.bipush 15, 2) := by decide +kernel
theorem dX2_init_397 : decode cX2_init 397 = .ok (.iastore, 1) := by decide +kernel
theorem dX2_init_398 : decode cX2_init 398 = .ok (.dup, 1) := by decide +kernel
theorem dX2_init_399 : decode cX2_init 399 = .ok (.bipush 63, 2) := by decide +kernel
theorem dX2_init_401 : decode cX2_init 401 = .ok (.bipush 8, 2) := by decide +kernel
theorem dX2_init_403 : decode cX2_init 403 = .ok (.iastore, 1) := by decide +kernel
theorem dX2_init_404 : decode cX2_init 404 = .ok (.dup, 1) := by decide +kernel
theorem dX2_init_405 : decode cX2_init 405 = .ok (.bipush 64, 2) := by decide +kernel
theorem dX2_init_407 : decode cX2_init 407 = .ok (.bipush 9, 2) := by decide +kernel
theorem dX2_init_409 : decode cX2_init 409 = .ok (.iastore, 1) := by decide +kernel
theorem dX2_init_410 : decode cX2_init 410 = .ok (.dup, 1) := by decide +kernel
theorem dX2_init_411 : decode cX2_init 411 = .ok (.bipush 65, 2) := by decide +kernel
theorem dX2_init_413 : decode cX2_init 413 = .ok (.iconst 0, 1) := by decide +kernel
theorem dX2_init_414 : decode cX2_init 414 = .ok (.iastore, 1) := by decide +kernel
theorem dX2_init_415 : decode cX2_init 415 = .ok (.dup, 1) := by decide +kernel
theorem dX2_init_416 : decode cX2_init 416 = .ok (.bipush 66, 2) := by decide +kernel
theorem dX2_init_418 : decode cX2_init 418 = .ok (.iconst 5, 1) := by decide +kernel
theorem dX2_init_419 : decode cX2_init 419 = .ok (.iastore, 1) := by decide +kernel
theorem dX2_init_420 : decode cX2_init 420 = .ok (.dup, 1) := by decide +kernel
theorem dX2_init_421 : decode cX2_init 421 = .ok (.bipush 67, 2) := by decide +kernel
theorem dX2_init_423 : decode cX2_init 423 = .ok (.bipush 7, 2) := by decide +kernel
theorem dX2_init_425 : decode cX2_init 425 = .ok (.iastore, 1) := by decide +kernel
theorem dX2_init_426 : decode cX2_init 426 = .ok (.dup, 1) := by decide +kernel
theorem dX2_init_427 : decode cX2_init 427 = .ok (.bipush 68, 2) := by decide +kernel
theorem dX2_init_429 : decode cX2_init 429 = .ok (.iconst 2, 1) := by decide +kernel
theorem dX2_init_430 : decode cX2_init 430 = .ok (.iastore, 1) := by decide +kernel
theorem dX2_init_431 : decode cX2_init 431 = .ok (.dup, 1) := by decide +kernel
theorem dX2_init_432 : decode cX2_init 432 = .ok (.bipush 69, 2) := by decide +kernel
theorem dX2_init_434 : decode cX2_init 434 = .ok (.iconst 4, 1) := by decide +kernel
theorem dX2_init_435 : decode cX2_init 435 = .ok (.iastore, 1) := by decide +kernel
theorem dX2_init_436 : decode cX2_init 436 = .ok (.dup, 1) := by decide +kernel
theorem dX2_init_437 : decode cX2_init 437 = .ok (.bipush 70, 2) := by decide +kernel
theorem dX2_init_439 : decode cX2_init 439 = .ok (.bipush 10, 2) := by decide +kernel
theorem dX2_init_441 : decode cX2_init 441 = .ok (.iastore, 1) := by decide +kernel
theorem dX2_init_442 : decode cX2_init 442 = .ok (.dup, 1) := by decide +kernel
theorem dX2_init_443 : decode cX2_init 443 = .ok (.bipush 71, 2) := by decide +kernel
theorem dX2_init_445 : decode cX2_init 445 = .ok (.bipush 15, 2) := by decide +kernel
theorem dX2_init_447 : decode cX2_init 447 = .ok (.iastore, 1) := by decide +kernel
theorem dX2_init_448 : decode cX2_init 448 = .ok (.dup, 1) := by decide +kernel
theorem dX2_init_449 : decode cX2_init 449 = .ok (.bipush 72, 2) := by decide +kernel
theorem dX2_init_451 : decode cX2_init 451 = .ok (.bipush 14, 2) := by decide +kernel
theorem dX2_init_453 : decode cX2_init 453 = .ok (.iastore, 1) := by decide +kernel
theorem dX2_init_454 : decode cX2_init 454 = .ok (.dup, 1) := by decide +kernel
theorem dX2_init_455 : decode cX2_init 455 = .ok (.bipush 73, 2) := by decide +kernel
theorem dX2_init_457 : decode cX2_init 457 = .ok (.iconst 1, 1) := by decide +kernel
theorem dX2_init_458 : decode cX2_init 458 = .ok (.iastore, 1) := by decide +kernel
theorem dX2_init_459 : decode cX2_init 459 = .ok (.dup, 1) := by decide +kernel
theorem dX2_init_460 : decode cX2_init 460 = .ok (.bipush 74, 2) := by decide +kernel
theorem dX2_init_462 : decode cX2_init 462 = .ok (.bipush 11, 2) := by decide +kernel
theorem dX2_init_464 : decode cX2_init 464 = .ok (.iastore, 1) := by decide +kernel
theorem dX2_init_465 : decode cX2_init 465 = .ok (.dup, 1) := by decide +kernel
theorem dX2_init_466 : decode cX2_init 466 = .ok (.bipush 75, 2) := by decide +kernel
theorem dX2_init_468 : decode cX2_init 468 = .ok (.bipush 12, 2) := by decide +kernel
theorem dX2_init_470 : decode cX2_init 470 = .ok (.iastore, 1) := by decide +kernel
theorem dX2_init_471 : decode cX2_init 471 = .ok (.dup, 1) := by decide +kernel
theorem dX2_init_472 : decode cX2_init 472 = .ok (.bipush 76, 2) := by decide +kernel
theorem dX2_init_474 : decode cX2_init 474 = .ok (.bipush 6, 2) := by decide +kernel
theorem dX2_init_476 : decode cX2_init 476 = .ok (.iastore, 1) := by decide +kernel
theorem dX2_init_477 : decode cX2_init 477 = .ok (.dup, 1) := by decide +kernel
theorem dX2_init_478 : decode cX2_init 478 = .ok (.bipush 77, 2) := by decide +kernel
