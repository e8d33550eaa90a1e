theorem dX7_init_0 : decode cX7_init 0 = .ok (.aload_n 0, 1) := by decide +kernel
theorem dX7_init_1 : decode cX7_init 1 = .ok (.invokespecial 1, 3) := by decide +kernel
theorem dX7_init_4 : decode cX7_init 4 = .ok (.aload_n 0, 1) := by decide +kernel
theorem dX7_init_5 : decode cX7_init 5 = .ok (.sipush 426, 3) := by decide +kernel
theorem dX7_init_8 : decode cX7_init 8 = .ok (.newarray .int, 2) := by decide +kernel
theorem dX7_init_10 : decode cX7_init 10 = .ok (.putfield 7, 3) := by decide +kernel
theorem dX7_init_13 : decode cX7_init 13 = .ok (.aload_n 0, 1) := by decide +kernel
theorem dX7_init_14 : decode cX7_init 14 = .ok (.bipush 71, 2) := by decide +kernel
theorem dX7_init_16 : decode cX7_init 16 = .ok (.newarray .int, 2) := by decide +kernel
theorem dX7_init_18 : decode cX7_init 18 = .ok (.putfield 13, 3) := by decide +kernel
theorem dX7_init_21 : decode cX7_init 21 = .ok (.aload_n 0, 1) := by decide +kernel
theorem dX7_init_22 : decode cX7_init 22 = .ok (.sipush 160, 3) := by decide +kernel
theorem dX7_init_25 : decode cX7_init 25 = .ok (.newarray .int, 2) := by decide +kernel
theorem dX7_init_27 : decode cX7_init 27 = .ok (.putfield 16, 3) := by decide +kernel
theorem dX7_init_30 : decode cX7_init 30 = .ok (.aload_n 0, 1) := by decide +kernel
theorem dX7_init_31 : decode cX7_init 31 = .ok (.bipush 9, 2) := by decide +kernel
theorem dX7_init_33 : decode cX7_init 33 = .ok (.newarray .int, 2) := by decide +kernel
theorem dX7_init_35 : decode cX7_init 35 = .ok (.dup, 1) := by decide +kernel
theorem dX7_init_36 : decode cX7_init 36 = .ok (.iconst 0, 1) := by decide +kernel
theorem dX7_init_37 : decode cX7_init 37 = .ok (.iconst 0, 1) := by decide +kernel
theorem dX7_init_38 : decode cX7_init 38 = .ok (.iastore, 1) := by decide +kernel
theorem dX7_init_39 : decode cX7_init 39 = .ok (.dup, 1) := by decide +kernel
theorem dX7_init_40 : decode cX7_init 40 = .ok (.iconst 1, 1) := by decide +kernel
theorem dX7_init_41 : decode cX7_init 41 = .ok (.iconst 5, 1) := by decide +kernel
theorem dX7_init_42 : decode cX7_init 42 = .ok (.iastore, 1) := by decide +kernel
theorem dX7_init_43 : decode cX7_init 43 = .ok (.dup, 1) := by decide +kernel
theorem dX7_init_44 : decode cX7_init 44 = .ok (.iconst 2, 1) := by decide +kernel
theorem dX7_init_45 : decode cX7_init 45 = .ok (.bipush 10, 2) := by decide +kernel
theorem dX7_init_47 : decode cX7_init 47 = .ok (.iastore, 1) := by decide +kernel
theorem dX7_init_48 : decode cX7_init 48 = .ok (.dup, 1) := by decide +kernel
theorem dX7_init_49 : decode cX7_init 49 = .ok (.iconst 3, 1) := by decide +kernel
theorem dX7_init_50 : decode cX7_init 50 = .ok (.bipush 16, 2) := by decide +kernel
theorem dX7_init_52 : decode cX7_init 52 = .ok (.iastore, 1) := by decide +kernel
theorem dX7_init_53 : decode cX7_init 53 = .ok (.dup, 1) := by decide +kernel
theorem dX7_init_54 : decode cX7_init 54 = .ok (.iconst 4, 1) := by decide +kernel
theorem dX7_init_55 : decode cX7_init 55 = .ok (.bipush 20, 2) := by decide +kernel
theorem dX7_init_57 : decode cX7_init 57 = .ok (.iastore, 1) := by decide +kernel
theorem dX7_init_58 : decode cX7_init 58 = .ok (.dup, 1) := by decide +kernel
theorem dX7_init_59 : decode cX7_init 59 = .ok (.iconst 5, 1) := by decide +kernel
theorem dX7_init_60 : decode cX7_init 60 = .ok (.bipush 25, 2) := by decide +kernel
theorem dX7_init_62 : decode cX7_init 62 = .ok (.iastore, 1) := by decide +kernel
theorem dX7_init_63 : decode cX7_init 63 = .ok (.dup, 1) := by decide +kernel
theorem dX7_init_64 : decode cX7_init 64 = .ok (.bipush 6, 2) := by decide +kernel
theorem dX7_init_66 : decode cX7_init 66 = .ok (.bipush 29, 2) := by decide +kernel
theorem dX7_init_68 : decode cX7_init 68 = .ok (.iastore, 1) := by decide +kernel
theorem dX7_init_69 : decode cX7_init 69 = .ok (.dup, 1) := by decide +kernel
theorem dX7_init_70 : decode cX7_init 70 = .ok (.bipush 7, 2) := by decide +kernel
theorem dX7_init_72 : decode cX7_init 72 = .ok (.bipush 33, 2) := by decide +kernel
theorem dX7_init_74 : decode cX7_init 74 = .ok (.iastore, 1) := by decide +kernel
theorem dX7_init_75 : decode cX7_init 75 = .ok (.dup, 1) := by decide +kernel
theorem dX7_init_76 : decode cX7_init 76 = .ok (.bipush 8, 2) := by decide +kernel
theorem dX7_init_78 : decode cX7_init 78 = .ok (.bipush 38, 2) := by decide +kernel
theorem dX7_init_80 : decode cX7_init 80 = .ok (.iastore, 1) := by decide +kernel
theorem dX7_init_81 : decode cX7_init 81 = .ok (.putfield 19, 3) := by decide +kernel
theorem dX7_init_84 : decode cX7_init 84 = .ok (.aload_n 0, 1) := by decide +kernel
theorem dX7_init_85 : decode cX7_init 85 = .ok (.bipush 38, 2) := by decide +kernel
theorem dX7_init_87 : decode cX7_init 87 = .ok (.newarray .int, 2) := by decide +kernel
theorem dX7_init_89 : decode cX7_init 89 = .ok (.dup, 1) := by decide +kernel
theorem dX7_init_90 : decode cX7_init 90 = .ok (.iconst 0, 1) := by decide +kernel
theorem dX7_init_91 : decode cX7_init 91 = .ok (.bipush 112, 2) := by decide +kernel
theorem dX7_init_93 : decode cX7_init 93 = .ok (.iastore, 1) := by decide +kernel
theorem dX7_init_94 : decode cX7_init 94 = .ok (.dup, 1) := by decide +kernel
theorem dX7_init_95 : decode cX7_init 95 = .ok (.iconst 1, 1) := by decide +kernel
theorem dX7_init_96 : decode cX7_init 96 = .ok (.bipush 108, 2) := by decide +kernel
theorem dX7_init_98 : decode cX7_init 98 = .ok (.iastore, 1) := by decide +kernel
theorem dX7_init_99 : decode cX7_init 99 = .ok (.dup, 1) := by decide +kernel
theorem dX7_init_100 : decode cX7_init 100 = .ok (.iconst 2, 1) := by decide +kernel
theorem dX7_init_101 : decode cX7_init 101 = .ok (.bipush 97, 2) := by decide +kernel
theorem dX7_init_103 : decode cX7_init 103 = .ok (.iastore, 1) := by decide +kernel
theorem dX7_init_104 : decode cX7_init 104 = .ok (.dup, 1) := by decide +kernel
theorem dX7_init_105 : decode cX7_init 105 = .ok (.iconst 3, 1) := by decide +kernel
theorem dX7_init_106 : decode cX7_init 106 = .ok (.bipush 105, 2) := by decide +kernel
theorem dX7_init_108 : decode cX7_init 108 = .ok (.iastore, 1) := by decide +kernel
theorem dX7_init_109 : decode cX7_init 109 = .ok (.dup, 1) := by decide +kernel
theorem dX7_init_110 : decode cX7_init 110 = .ok (.iconst 4, 1) := by decide +kernel
theorem dX7_init_111 : decode cX7_init 111 = .ok (.bipush 110, 2) := by decide +kernel
theorem dX7_init_113 : decode cX7_init 113 = .ok (.iastore, 1) := by decide +kernel
theorem dX7_init_114 : decode cX7_init 114 = .ok (.dup, 1) := by decide +kernel
theorem dX7_init_115 : decode cX7_init 115 = .ok (.iconst 5, 1) := by decide +kernel
theorem dX7_init_116 : decode cX7_init 116 = .ok (.bipush 112, 2) := by decide +kernel
theorem dX7_init_118 : decode cX7_init 118 = .ok (.iastore, 1) := by decide +kernel
theorem dX7_init_119 : decode cX7_init 119 = .ok (.dup, 1) := by decide +kernel
theorem dX7_init_120 : decode cX7_init 120 = .ok (.bipush 6, 2) := by decide +kernel
theorem dX7_init_122 : decode cX7_init 122 = .ok (.bipush 105, 2) := by decide +kernel
theorem dX7_init_124 : decode cX7_init 124 = .ok (.iastore, 1) := by decide +kernel
theorem dX7_init_125 : decode cX7_init 125 = .ok (.dup, 1) := by decide +kernel
theorem dX7_init_126 : decode cX7_init 126 = .ok (.bipush 7, 2) := by decide +kernel
theorem dX7_init_128 : decode cX7_init 128 = .ok (.bipush 97, 2) := by decide +kernel
theorem dX7_init_130 : decode cX7_init 130 = .ok (.iastore, 1) := by decide +kernel
theorem dX7_init_131 : decode cX7_init 131 = .ok (.dup, 1) := by decide +kernel
theorem dX7_init_132 : decode cX7_init 132 = .ok (.bipush 8, 2) := by decide +kernel
theorem dX7_init_134 : decode cX7_init 134 = .ok (.bipush 110, 2) := by decide +kernel
theorem dX7_init_136 : decode cX7_init 136 = .ok (.iastore, 1) := by decide +kernel
theorem dX7_init_137 : decode cX7_init 137 = .ok (.dup, 1) := by decide +kernel
theorem dX7_init_138 : decode cX7_init 138 = .ok (.bipush 9, 2) := by decide +kernel
theorem dX7_init_140 : decode cX7_init 140 = .ok (.bipush 111, 2) := by decide +kernel
theorem dX7_init_142 : decode cX7_init 142 = .ok (.iastore, 1) := by decide +kernel
theorem dX7_init_143 : decode cX7_init 143 = .ok (.dup, 1) := by decide +kernel
theorem dX7_init_144 : decode cX7_init 144 = .ok (.bipush 10, 2) := by decide +kernel
theorem dX7_init_146 : decode cX7_init 146 = .ok (.bipush 102, 2) := by decide +kernel
theorem dX7_init_148 : decode cX7_init 148 = .ok (.iastore, 1) := by decide +kernel
theorem dX7_init_149 : decode cX7_init 149 = .ok (.dup, 1) := by decide +kernel
theorem dX7_init_150 : decode cX7_init 150 = .ok (.bipush 11, 2) := by decide +kernel
theorem dX7_init_152 : decode cX7_init 152 = .ok (.bipush 97, 2) := by decide +kernel
theorem dX7_init_154 : decode cX7_init 154 = .ok (.iastore, 1) := by decide +kernel
theorem dX7_init_155 : decode cX7_init 155 = .ok (.dup, 1) := by decide +kernel
theorem dX7_init_156 : decode cX7_init 156 = .ok (.bipush 12, 2) := by decide +kernel
theorem dX7_init_158 : decode cX7_init 158 = .ok (.bipush 116, 2) := by decide +kernel
theorem dX7_init_160 : decode cX7_init 160 = .ok (.iastore, 1) := by decide +kernel
theorem dX7_init_161 : decode cX7_init 161 = .ok (.dup, 1) := by decide +kernel
theorem dX7_init_162 : decode cX7_init 162 = .ok (.bipush 13, 2) := by decide +kernel
theorem dX7_init_164 : decode cX7_init 164 = .ok (.bipush 104, 2) := by decide +kernel
theorem dX7_init_166 : decode cX7_init 166 = .ok (.iastore, 1) := by decide +kernel
theorem dX7_init_167 : decode cX7_init 167 = .ok (.dup, 1) := by decide +kernel
theorem dX7_init_168 : decode cX7_init 168 = .ok (.bipush 14, 2) := by decide +kernel
theorem dX7_init_170 : decode cX7_init 170 = .ok (.bipush 101, 2) := by decide +kernel
theorem dX7_init_172 : decode cX7_init 172 = .ok (.iastore, 1) := by decide +kernel
theorem dX7_init_173 : decode cX7_init 173 = .ok (.dup, 1) := by decide +kernel
theorem dX7_init_174 : decode cX7_init 174 = .ok (.bipush 15, 2) := by decide +kernel
theorem dX7_init_176 : decode cX7_init 176 = .ok (.bipush 114, 2) := by decide +kernel
theorem dX7_init_178 : decode cX7_init 178 = .ok (.iastore, 1) := by decide +kernel
theorem dX7_init_179 : decode cX7_init 179 = .ok (.dup, 1) := by decide +kernel
theorem dX7_init_180 : decode cX7_init 180 = .ok (.bipush 16, 2) := by decide +kernel
theorem dX7_init_182 : decode cX7_init 182 = .ok (.bipush 115, 2) := by decide +kernel
theorem dX7_init_184 : decode cX7_init 184 = .ok (.iastore, 1) := by decide +kernel
theorem dX7_init_185 : decode cX7_init 185 = .ok (.dup, 1) := by decide +kernel
theorem dX7_init_186 : decode cX7_init 186 = .ok (.bipush 17, 2) := by decide +kernel
theorem dX7_init_188 : decode cX7_init 188 = .ok (.bipush 101, 2) := by decide +kernel
theorem dX7_init_190 : decode cX7_init 190 = .ok (.iastore, 1) := by decide +kernel
theorem dX7_init_191 : decode cX7_init 191 = .ok (.dup, 1) := by decide +kernel
theorem dX7_init_192 : decode cX7_init 192 = .ok (.bipush 18, 2) := by decide +kernel
theorem dX7_init_194 : decode cX7_init 194 = .ok (.bipush 108, 2) := by decide +kernel
theorem dX7_init_196 : decode cX7_init 196 = .ok (.iastore, 1) := by decide +kernel
theorem dX7_init_197 : decode cX7_init 197 = .ok (.dup, 1) := by decide +kernel
theorem dX7_init_198 : decode cX7_init 198 = .ok (.bipush 19, 2) := by decide +kernel
theorem dX7_init_200 : decode cX7_init 200 = .ok (.bipush 102, 2) := by decide +kernel
theorem dX7_init_202 : decode cX7_init 202 = .ok (.iastore, 1) := by decide +kernel
theorem dX7_init_203 : decode cX7_init 203 = .ok (.dup, 1) := by decide +kernel
theorem dX7_init_204 : decode cX7_init 204 = .ok (.bipush 20, 2) := by decide +kernel
theorem dX7_init_206 : decode cX7_init 206 = .ok (.bipush 104, 2) := by decide +kernel
theorem dX7_init_208 : decode cX7_init 208 = .ok (.iastore, 1) := by decide +kernel
theorem dX7_init_209 : decode cX7_init 209 = .ok (.dup, 1) := by decide +kernel
theorem dX7_init_210 : decode cX7_init 210 = .ok (.bipush 21, 2) := by decide +kernel
theorem dX7_init_212 : decode cX7_init 212 = .ok (.bipush 111, 2) := by decide +kernel
theorem dX7_init_214 : decode cX7_init 214 = .ok (.iastore, 1) := by decide +kernel
theorem dX7_init_215 : decode cX7_init 215 = .ok (.dup, 1) := by decide +kernel
theorem dX7_init_216 : decode cX7_init 216 = .ok (.bipush 22, 2) := by decide +kernel
theorem dX7_init_218 : decode cX7_init 218 = .ok (.bipush 117, 2) := by decide +kernel
theorem dX7_init_220 : decode cX7_init 220 = .ok (.iastore, 1) := by decide +kernel
theorem dX7_init_221 : decode cX7_init 221 = .ok (.dup, 1) := by decide +kernel
theorem dX7_init_222 : decode cX7_init 222 = .ok (.bipush 23, 2) := by decide +kernel
theorem dX7_init_224 : decode cX7_init 224 = .ok (.bipush 115, 2) := by decide +kernel
theorem dX7_init_226 : decode cX7_init 226 = .ok (.iastore, 1) := by decide +kernel
theorem dX7_init_227 : decode cX7_init 227 = .ok (.dup, 1) := by decide +kernel
theorem dX7_init_228 : decode cX7_init 228 = .ok (.bipush 24, 2) := by decide +kernel
theorem dX7_init_230 : decode cX7_init 230 = .ok (.bipush 101, 2) := by decide +kernel
theorem dX7_init_232 : decode cX7_init 232 = .ok (.iastore, 1) := by decide +kernel
theorem dX7_init_233 : decode cX7_init 233 = .ok (.dup, 1) := by decide +kernel
theorem dX7_init_234 : decode cX7_init 234 = .ok (.bipush 25, 2) := by decide +kernel
theorem dX7_init_236 : decode cX7_init 236 = .ok (.bipush 114, 2) := by decide +kernel
theorem dX7_init_238 : decode cX7_init 238 = .ok (.iastore, 1) := by decide +kernel
theorem dX7_init_239 : decode cX7_init 239 = .ok (.dup, 1) := by decide +kernel
theorem dX7_init_240 : decode cX7_init 240 = .ok (.bipush 26, 2) := by decide +kernel
theorem dX7_init_242 : decode cX7_init 242 = .ok (.bipush 105, 2) := by decide +kernel
theorem dX7_init_244 : decode cX7_init 244 = .ok (.iastore, 1) := by decide +kernel
theorem dX7_init_245 : decode cX7_init 245 = .ok (.dup, 1) := by decide +kernel
theorem dX7_init_246 : decode cX7_init 246 = .ok (.bipush 27, 2) := by decide +kernel
theorem dX7_init_248 : decode cX7_init 248 = .ok (.bipush 115, 2) := by decide +kernel
theorem dX7_init_250 : decode cX7_init 250 = .ok (.iastore, 1) := by decide +kernel
theorem dX7_init_251 : decode cX7_init 251 = .ok (.dup, 1) := by decide +kernel
theorem dX7_init_252 : decode cX7_init 252 = .ok (.bipush 28, 2) := by decide +kernel
theorem dX7_init_254 : decode cX7_init 254 = .ok (.bipush 101, 2) := by decide +kernel
theorem dX7_init_256 : decode cX7_init 256 = .ok (.iastore, 1) := by decide +kernel
theorem dX7_init_257 : decode cX7_init 257 = .ok (.dup, 1) := by decide +kernel
theorem dX7_init_258 : decode cX7_init 258 = .ok (.bipush 29, 2) := by decide +kernel
theorem dX7_init_260 : decode cX7_init 260 = .ok (.bipush 119, 2) := by decide +kernel
theorem dX7_init_262 : decode cX7_init 262 = .ok (.iastore, 1) := by decide +kernel
theorem dX7_init_263 : decode cX7_init 263 = .ok (.dup, 1) := by decide +kernel
theorem dX7_init_264 : decode cX7_init 264 = .ok (.bipush 30, 2) := by decide +kernel
theorem dX7_init_266 : decode cX7_init 266 = .ok (.bipush 105, 2) := by decide +kernel
theorem dX7_init_268 : decode cX7_init 268 = .ok (.iastore, 1) := by decide +kernel
theorem dX7_init_269 : decode cX7_init 269 = .ok (.dup, 1) := by decide +kernel
theorem dX7_init_270 : decode cX7_init 270 = .ok (.bipush 31, 2) := by decide +kernel
theorem dX7_init_272 : decode cX7_init 272 = .ok (.bipush 110, 2) := by decide +kernel
theorem dX7_init_274 : decode cX7_init 274 = .ok (.iastore, 1) := by decide +kernel
theorem dX7_init_275 : decode cX7_init 275 = .ok (.dup, 1) := by decide +kernel
theorem dX7_init_276 : decode cX7_init 276 = .ok (.bipush 32, 2) := by decide +kernel
theorem dX7_init_278 : decode cX7_init 278 = .ok (.bipush 100, 2) := by decide +kernel
theorem dX7_init_280 : decode cX7_init 280 = .ok (.iastore, 1) := by decide +kernel
theorem dX7_init_281 : decode cX7_init 281 = .ok (.dup, 1) := by decide +kernel
theorem dX7_init_282 : decode cX7_init 282 = .ok (.bipush 33, 2) := by decide +kernel
theorem dX7_init_284 : decode cX7_init 284 = .ok (.bipush 108, 2) := by decide +kernel
theorem dX7_init_286 : decode cX7_init 286 = .ok (.iastore, 1) := by decide +kernel
theorem dX7_init_287 : decode cX7_init 287 = .ok (.dup, 1) := by decide +kernel
theorem dX7_init_288 : decode cX7_init 288 = .ok (.bipush 34, 2) := by decide +kernel
theorem dX7_init_290 : decode cX7_init 290 = .ok (.bipush 101, 2) := by decide +kernel
theorem dX7_init_292 : decode cX7_init 292 = .ok (.iastore, 1) := by decide +kernel
theorem dX7_init_293 : decode cX7_init 293 = .ok (.dup, 1) := by decide +kernel
theorem dX7_init_294 : decode cX7_init 294 = .ok (.bipush 35, 2) := by decide +kernel
theorem dX7_init_296 : decode cX7_init 296 = .ok (.bipush 118, 2) := by decide +kernel
theorem dX7_init_298 : decode cX7_init 298 = .ok (.iastore, 1) := by decide +kernel
theorem dX7_init_299 : decode cX7_init 299 = .ok (.dup, 1) := by decide +kernel
theorem dX7_init_300 : decode cX7_init 300 = .ok (.bipush 36, 2) := by decide +kernel
theorem dX7_init_302 : decode cX7_init 302 = .ok (.bipush 101, 2) := by decide +kernel
theorem dX7_init_304 : decode cX7_init 304 = .ok (.iastore, 1) := by decide +kernel
theorem dX7_init_305 : decode cX7_init 305 = .ok (.dup, 1) := by decide +kernel
theorem dX7_init_306 : decode cX7_init 306 = .ok (.bipush 37, 2) := by decide +kernel
theorem dX7_init_308 : decode cX7_init 308 = .ok (.bipush 108, 2) := by decide +kernel
theorem dX7_init_310 : decode cX7_init 310 = .ok (.iastore, 1) := by decide +kernel
theorem dX7_init_311 : decode cX7_init 311 = .ok (.putfield 22, 3) := by decide +kernel
theorem dX7_init_314 : decode cX7_init 314 = .ok (.aload_n 0, 1) := by decide +kernel
theorem dX7_init_315 : decode cX7_init 315 = .ok (.bipush 12, 2) := by decide +kernel
theorem dX7_init_317 : decode cX7_init 317 = .ok (.newarray .int, 2) := by decide +kernel
theorem dX7_init_319 : decode cX7_init 319 = .ok (.putfield 25, 3) := by decide +kernel
theorem dX7_init_322 : decode cX7_init 322 = .ok (.aload_n 0, 1) := by decide +kernel
theorem dX7_init_323 : decode cX7_init 323 = .ok (.sipush 651, 3) := by decide +kernel
theorem dX7_init_326 : decode cX7_init 326 = .ok (.newarray .int, 2) := by decide +kernel
theorem dX7_init_328 : decode cX7_init 328 = .ok (.putfield 28, 3) := by decide +kernel
theorem dX7_init_331 : decode cX7_init 331 = .ok (.aload_n 0, 1) := by decide +kernel
theorem dX7_init_332 : decode cX7_init 332 = .ok (.iconst 2, 1) := by decide +kernel
theorem dX7_init_333 : decode cX7_init 333 = .ok (.newarray .boolean, 2) := by decide +kernel
theorem dX7_init_335 : decode cX7_init 335 = .ok (.putfield 31, 3) := by decide +kernel
theorem dX7_init_338 : decode cX7_init 338 = .ok (.aload_n 0, 1) := by decide +kernel
theorem dX7_init_339 : decode cX7_init 339 = .ok (.iconst 4, 1) := by decide +kernel
theorem dX7_init_340 : decode cX7_init 340 = .ok (.newarray .int, 2) := by decide +kernel
theorem dX7_init_342 : decode cX7_init 342 = .ok (.dup, 1) := by decide +kernel
theorem dX7_init_343 : decode cX7_init 343 = .ok (.iconst 0, 1) := by decide +kernel
theorem dX7_init_344 : decode cX7_init 344 = .ok (.bipush (-4), 2) := by decide +kernel
theorem dX7_init_346 : decode cX7_init 346 = .ok (.iastore, 1) := by decide +kernel
theorem dX7_init_347 : decode cX7_init 347 = .ok (.dup, 1) := by decide +kernel
theorem dX7_init_348 : decode cX7_init 348 = .ok (.iconst 1, 1) := by decide +kernel
theorem dX7_init_349 : decode cX7_init 349 = .ok (.bipush (-4), 2) := by decide +kernel
theorem dX7_init_351 : decode cX7_init 351 = .ok (.iastore, 1) := by decide +kernel
theorem dX7_init_352 : decode cX7_init 352 = .ok (.dup, 1) := by decide +kernel
theorem dX7_init_353 : decode cX7_init 353 = .ok (.iconst 2, 1) := by decide +kernel
theorem dX7_init_354 : decode cX7_init 354 = .ok (.bipush (-4), 2) := by decide +kernel
theorem dX7_init_356 : decode cX7_init 356 = .ok (.iastore, 1) := by decide +kernel
theorem dX7_init_357 : decode cX7_init 357 = .ok (.dup, 1) := by decide +kernel
theorem dX7_init_358 : decode cX7_init 358 = .ok (.iconst 3, 1) := by decide +kernel
theorem dX7_init_359 : decode cX7_init 359 = .ok (.bipush (-4), 2) := by decide +kernel
theorem dX7_init_361 : decode cX7_init 361 = .ok (.iastore, 1) := by decide +kernel
theorem dX7_init_362 : decode cX7_init 362 = .ok (.putfield 35, 3) := by decide +kernel
theorem dX7_init_365 : decode cX7_init 365 = .ok (.aload_n 0, 1) := by decide +kernel
theorem dX7_init_366 : decode cX7_init 366 = .ok (.iconst 4, 1) := by decide +kernel
theorem dX7_init_367 : decode cX7_init 367 = .ok (.newarray .int, 2) := by decide +kernel
theorem dX7_init_369 : decode cX7_init 369 = .ok (.putfield 38, 3) := by decide +kernel
theorem dX7_init_372 : decode cX7_init 372 = .ok (.aload_n 0, 1) := by decide +kernel
theorem dX7_init_373 : decode cX7_init 373 = .ok (.sipush 160, 3) := by decide +kernel
theorem dX7_init_376 : decode cX7_init 376 = .ok (.newarray .int, 2) := by decide +kernel
theorem dX7_init_378 : decode cX7_init 378 = .ok (.putfield 41, 3) := by decide +kernel
theorem dX7_init_381 : decode cX7_init 381 = .ok (.return_, 1) := by decide +kernel
theorem dX7_in_0 : decode cX7_in 0 = .ok (.lload_n 0, 1) := by decide +kernel
theorem dX7_in_1 : decode cX7_in 1 = .ok (.lload_n 2, 1) := by decide +kernel
theorem dX7_in_2 : decode cX7_in 2 = .ok (.lcmp, 1) := by decide +kernel
theorem dX7_in_3 : decode cX7_in 3 = .ok (.ifCond .lt 14, 3) := by decide +kernel
theorem dX7_in_6 : decode cX7_in 6 = .ok (.lload_n 0, 1) := by decide +kernel
theorem dX7_in_7 : decode cX7_in 7 = .ok (.lload 4, 2) := by decide +kernel
theorem dX7_in_9 : decode cX7_in 9 = .ok (.lcmp, 1) := by decide +kernel
theorem dX7_in_10 : decode cX7_in 10 = .ok (.ifCond .gt 7, 3) := by decide +kernel
theorem dX7_in_13 : decode cX7_in 13 = .ok (.iconst 1, 1) := by decide +kernel
theorem dX7_in_14 : decode cX7_in 14 = .ok (.goto 4, 3) := by decide +kernel
theorem dX7_in_17 : decode cX7_in 17 = .ok (.iconst 0, 1) := by decide +kernel
theorem dX7_in_18 : decode cX7_in 18 = .ok (.ireturn, 1) := by decide +kernel
theorem dX7_feed_0 : decode cX7_feed 0 = .ok (.iload_n 1, 1) := by decide +kernel
theorem dX7_feed_1 : decode cX7_feed 1 = .ok (.i2l, 1) := by decide +kernel
theorem dX7_feed_2 : decode cX7_feed 2 = .ok (.lconst 0, 1) := by decide +kernel
theorem dX7_feed_3 : decode cX7_feed 3 = .ok (.ldc2_w 44, 3) := by decide +kernel
theorem dX7_feed_6 : decode cX7_feed 6 = .ok (.invokestatic 46, 3) := by decide +kernel
theorem dX7_feed_9 : decode cX7_feed 9 = .ok (.ifCond .ne 5, 3) := by decide +kernel
theorem dX7_feed_12 : decode cX7_feed 12 = .ok (.iconst (-1), 1) := by decide +kernel
theorem dX7_feed_13 : decode cX7_feed 13 = .ok (.ireturn, 1) := by decide +kernel
theorem dX7_feed_14 : decode cX7_feed 14 = .ok (.aload_n 0, 1) := by decide +kernel
theorem dX7_feed_15 : decode cX7_feed 15 = .ok (.getfield 50, 3) := by decide +kernel
theorem dX7_feed_18 : decode cX7_feed 18 = .ok (.sipush 160, 3) := by decide +kernel
theorem dX7_feed_21 : decode cX7_feed 21 = .ok (.if_icmp .ne 6, 3) := by decide +kernel
theorem dX7_feed_24 : decode cX7_feed 24 = .ok (.bipush (-3), 2) := by decide +kernel
theorem dX7_feed_26 : decode cX7_feed 26 = .ok (.ireturn, 1) := by decide +kernel
theorem dX7_feed_27 : decode cX7_feed 27 = .ok (.aload_n 0, 1) := by decide +kernel
theorem dX7_feed_28 : decode cX7_feed 28 = .ok (.getfield 16, 3) := by decide +kernel
theorem dX7_feed_31 : decode cX7_feed 31 = .ok (.aload_n 0, 1) := by decide +kernel
theorem dX7_feed_32 : decode cX7_feed 32 = .ok (.getfield 50, 3) := by decide +kernel
theorem dX7_feed_35 : decode cX7_feed 35 = .ok (.iload_n 1, 1) := by decide +kernel
theorem dX7_feed_36 : decode cX7_feed 36 = .ok (.iastore, 1) := by decide +kernel
theorem dX7_feed_37 : decode cX7_feed 37 = .ok (.aload_n 0, 1) := by decide +kernel
theorem dX7_feed_38 : decode cX7_feed 38 = .ok (.dup, 1) := by decide +kernel
theorem dX7_feed_39 : decode cX7_feed 39 = .ok (.getfield 50, 3) := by decide +kernel
theorem dX7_feed_42 : decode cX7_feed 42 = .ok (.iconst 1, 1) := by decide +kernel
theorem dX7_feed_43 : decode cX7_feed 43 = .ok (.iadd, 1) := by decide +kernel
theorem dX7_feed_44 : decode cX7_feed 44 = .ok (.putfield 50, 3) := by decide +kernel
theorem dX7_feed_47 : decode cX7_feed 47 = .ok (.aload_n 0, 1) := by decide +kernel
theorem dX7_feed_48 : decode cX7_feed 48 = .ok (.getfield 50, 3) := by decide +kernel
theorem dX7_feed_51 : decode cX7_feed 51 = .ok (.ireturn, 1) := by decide +kernel
theorem dX7_end_0 : decode cX7_end 0 = .ok (.iload_n 1, 1) := by decide +kernel
theorem dX7_end_1 : decode cX7_end 1 = .ok (.i2l, 1) := by decide +kernel
theorem dX7_end_2 : decode cX7_end 2 = .ok (.lconst 0, 1) := by decide +kernel
theorem dX7_end_3 : decode cX7_end 3 = .ok (.aload_n 0, 1) := by decide +kernel
theorem dX7_end_4 : decode cX7_end 4 = .ok (.getfield 50, 3) := by decide +kernel
theorem dX7_end_7 : decode cX7_end 7 = .ok (.i2l, 1) := by decide +kernel
theorem dX7_end_8 : decode cX7_end 8 = .ok (.invokestatic 46, 3) := by decide +kernel
theorem dX7_end_11 : decode cX7_end 11 = .ok (.ifCond .ne 5, 3) := by decide +kernel
theorem dX7_end_14 : decode cX7_end 14 = .ok (.iconst (-1), 1) := by decide +kernel
theorem dX7_end_15 : decode cX7_end 15 = .ok (.ireturn, 1) := by decide +kernel
theorem dX7_end_16 : decode cX7_end 16 = .ok (.aload_n 0, 1) := by decide +kernel
theorem dX7_end_17 : decode cX7_end 17 = .ok (.getfield 50, 3) := by decide +kernel
theorem dX7_end_20 : decode cX7_end 20 = .ok (.istore_n 2, 1) := by decide +kernel
theorem dX7_end_21 : decode cX7_end 21 = .ok (.aload_n 0, 1) := by decide +kernel
theorem dX7_end_22 : decode cX7_end 22 = .ok (.iload_n 1, 1) := by decide +kernel
theorem dX7_end_23 : decode cX7_end 23 = .ok (.putfield 50, 3) := by decide +kernel
theorem dX7_end_26 : decode cX7_end 26 = .ok (.iload_n 2, 1) := by decide +kernel
theorem dX7_end_27 : decode cX7_end 27 = .ok (.ireturn, 1) := by decide +kernel
theorem dX7_byteAt_0 : decode cX7_byteAt 0 = .ok (.iload_n 1, 1) := by decide +kernel
theorem dX7_byteAt_1 : decode cX7_byteAt 1 = .ok (.aload_n 0, 1) := by decide +kernel
theorem dX7_byteAt_2 : decode cX7_byteAt 2 = .ok (.getfield 50, 3) := by decide +kernel
theorem dX7_byteAt_5 : decode cX7_byteAt 5 = .ok (.if_icmp .ge 12, 3) := by decide +kernel
theorem dX7_byteAt_8 : decode cX7_byteAt 8 = .ok (.aload_n 0, 1) := by decide +kernel
theorem dX7_byteAt_9 : decode cX7_byteAt 9 = .ok (.getfield 16, 3) := by decide +kernel
theorem dX7_byteAt_12 : decode cX7_byteAt 12 = .ok (.iload_n 1, 1) := by decide +kernel
theorem dX7_byteAt_13 : decode cX7_byteAt 13 = .ok (.iaload, 1) := by decide +kernel
theorem dX7_byteAt_14 : decode cX7_byteAt 14 = .ok (.goto 5, 3) := by decide +kernel
theorem dX7_byteAt_17 : decode cX7_byteAt 17 = .ok (.bipush (-4), 2) := by decide +kernel
theorem dX7_byteAt_19 : decode cX7_byteAt 19 = .ok (.ireturn, 1) := by decide +kernel
theorem dX7_fails_0 : decode cX7_fails 0 = .ok (.aload_n 0, 1) := by decide +kernel
theorem dX7_fails_1 : decode cX7_fails 1 = .ok (.getfield 54, 3) := by decide +kernel
theorem dX7_fails_4 : decode cX7_fails 4 = .ok (.ifCond .ne 16, 3) := by decide +kernel
theorem dX7_fails_7 : decode cX7_fails 7 = .ok (.aload_n 0, 1) := by decide +kernel
theorem dX7_fails_8 : decode cX7_fails 8 = .ok (.iload_n 1, 1) := by decide +kernel
theorem dX7_fails_9 : decode cX7_fails 9 = .ok (.putfield 54, 3) := by decide +kernel
theorem dX7_fails_12 : decode cX7_fails 12 = .ok (.aload_n 0, 1) := by decide +kernel
theorem dX7_fails_13 : decode cX7_fails 13 = .ok (.aload_n 0, 1) := by decide +kernel
theorem dX7_fails_14 : decode cX7_fails 14 = .ok (.getfield 57, 3) := by decide +kernel
theorem dX7_fails_17 : decode cX7_fails 17 = .ok (.putfield 60, 3) := by decide +kernel
theorem dX7_fails_20 : decode cX7_fails 20 = .ok (.return_, 1) := by decide +kernel
theorem dX7_nameHere_0 : decode cX7_nameHere 0 = .ok (.iconst 0, 1) := by decide +kernel
theorem dX7_nameHere_1 : decode cX7_nameHere 1 = .ok (.istore_n 1, 1) := by decide +kernel
theorem dX7_nameHere_2 : decode cX7_nameHere 2 = .ok (.iload_n 1, 1) := by decide +kernel
theorem dX7_nameHere_3 : decode cX7_nameHere 3 = .ok (.bipush 8, 2) := by decide +kernel
theorem dX7_nameHere_5 : decode cX7_nameHere 5 = .ok (.if_icmp .ge 113, 3) := by decide +kernel
theorem dX7_nameHere_8 : decode cX7_nameHere 8 = .ok (.aload_n 0, 1) := by decide +kernel
theorem dX7_nameHere_9 : decode cX7_nameHere 9 = .ok (.getfield 63, 3) := by decide +kernel
theorem dX7_nameHere_12 : decode cX7_nameHere 12 = .ok (.iconst 1, 1) := by decide +kernel
theorem dX7_nameHere_13 : decode cX7_nameHere 13 = .ok (.if_icmp .ne 105, 3) := by decide +kernel
theorem dX7_nameHere_16 : decode cX7_nameHere 16 = .ok (.aload_n 0, 1) := by decide +kernel
theorem dX7_nameHere_17 : decode cX7_nameHere 17 = .ok (.getfield 66, 3) := by decide +kernel
theorem dX7_nameHere_20 : decode cX7_nameHere 20 = .ok (.aload_n 0, 1) := by decide +kernel
theorem dX7_nameHere_21 : decode cX7_nameHere 21 = .ok (.getfield 57, 3) := by decide +kernel
theorem dX7_nameHere_24 : decode cX7_nameHere 24 = .ok (.isub, 1) := by decide +kernel
theorem dX7_nameHere_25 : decode cX7_nameHere 25 = .ok (.aload_n 0, 1) := by decide +kernel
theorem dX7_nameHere_26 : decode cX7_nameHere 26 = .ok (.getfield 19, 3) := by decide +kernel
theorem dX7_nameHere_29 : decode cX7_nameHere 29 = .ok (.iload_n 1, 1) := by decide +kernel
theorem dX7_nameHere_30 : decode cX7_nameHere 30 = .ok (.iconst 1, 1) := by decide +kernel
theorem dX7_nameHere_31 : decode cX7_nameHere 31 = .ok (.iadd, 1) := by decide +kernel
theorem dX7_nameHere_32 : decode cX7_nameHere 32 = .ok (.iaload, 1) := by decide +kernel
theorem dX7_nameHere_33 : decode cX7_nameHere 33 = .ok (.aload_n 0, 1) := by decide +kernel
theorem dX7_nameHere_34 : decode cX7_nameHere 34 = .ok (.getfield 19, 3) := by decide +kernel
theorem dX7_nameHere_37 : decode cX7_nameHere 37 = .ok (.iload_n 1, 1) := by decide +kernel
theorem dX7_nameHere_38 : decode cX7_nameHere 38 = .ok (.iaload, 1) := by decide +kernel
theorem dX7_nameHere_39 : decode cX7_nameHere 39 = .ok (.isub, 1) := by decide +kernel
theorem dX7_nameHere_40 : decode cX7_nameHere 40 = .ok (.if_icmp .ne 7, 3) := by decide +kernel
theorem dX7_nameHere_43 : decode cX7_nameHere 43 = .ok (.iconst 1, 1) := by decide +kernel
theorem dX7_nameHere_44 : decode cX7_nameHere 44 = .ok (.goto 4, 3) := by decide +kernel
theorem dX7_nameHere_47 : decode cX7_nameHere 47 = .ok (.iconst 0, 1) := by decide +kernel
theorem dX7_nameHere_48 : decode cX7_nameHere 48 = .ok (.istore_n 2, 1) := by decide +kernel
theorem dX7_nameHere_49 : decode cX7_nameHere 49 = .ok (.iconst 0, 1) := by decide +kernel
theorem dX7_nameHere_50 : decode cX7_nameHere 50 = .ok (.istore_n 3, 1) := by decide +kernel
theorem dX7_nameHere_51 : decode cX7_nameHere 51 = .ok (.iload_n 2, 1) := by decide +kernel
theorem dX7_nameHere_52 : decode cX7_nameHere 52 = .ok (.ifCond .eq 54, 3) := by decide +kernel
theorem dX7_nameHere_55 : decode cX7_nameHere 55 = .ok (.iload_n 3, 1) := by decide +kernel
theorem dX7_nameHere_56 : decode cX7_nameHere 56 = .ok (.aload_n 0, 1) := by decide +kernel
theorem dX7_nameHere_57 : decode cX7_nameHere 57 = .ok (.getfield 66, 3) := by decide +kernel
theorem dX7_nameHere_60 : decode cX7_nameHere 60 = .ok (.aload_n 0, 1) := by decide +kernel
theorem dX7_nameHere_61 : decode cX7_nameHere 61 = .ok (.getfield 57, 3) := by decide +kernel
theorem dX7_nameHere_64 : decode cX7_nameHere 64 = .ok (.isub, 1) := by decide +kernel
theorem dX7_nameHere_65 : decode cX7_nameHere 65 = .ok (.if_icmp .ge 41, 3) := by decide +kernel
theorem dX7_nameHere_68 : decode cX7_nameHere 68 = .ok (.aload_n 0, 1) := by decide +kernel
theorem dX7_nameHere_69 : decode cX7_nameHere 69 = .ok (.aload_n 0, 1) := by decide +kernel
theorem dX7_nameHere_70 : decode cX7_nameHere 70 = .ok (.getfield 57, 3) := by decide +kernel
theorem dX7_nameHere_73 : decode cX7_nameHere 73 = .ok (.iload_n 3, 1) := by decide +kernel
theorem dX7_nameHere_74 : decode cX7_nameHere 74 = .ok (.iadd, 1) := by decide +kernel
theorem dX7_nameHere_75 : decode cX7_nameHere 75 = .ok (.invokevirtual 69, 3) := by decide +kernel
theorem dX7_nameHere_78 : decode cX7_nameHere 78 = .ok (.aload_n 0, 1) := by decide +kernel
theorem dX7_nameHere_79 : decode cX7_nameHere 79 = .ok (.getfield 22, 3) := by decide +kernel
theorem dX7_nameHere_82 : decode cX7_nameHere 82 = .ok (.aload_n 0, 1) := by decide +kernel
theorem dX7_nameHere_83 : decode cX7_nameHere 83 = .ok (.getfield 19, 3) := by decide +kernel
theorem dX7_nameHere_86 : decode cX7_nameHere 86 = .ok (.iload_n 1, 1) := by decide +kernel
theorem dX7_nameHere_87 : decode cX7_nameHere 87 = .ok (.iaload, 1) := by decide +kernel
theorem dX7_nameHere_88 : decode cX7_nameHere 88 = .ok (.iload_n 3, 1) := by decide +kernel
theorem dX7_nameHere_89 : decode cX7_nameHere 89 = .ok (.iadd, 1) := by decide +kernel
theorem dX7_nameHere_90 : decode cX7_nameHere 90 = .ok (.iaload, 1) := by decide +kernel
theorem dX7_nameHere_91 : decode cX7_nameHere 91 = .ok (.if_icmp .ne 7, 3) := by decide +kernel
theorem dX7_nameHere_94 : decode cX7_nameHere 94 = .ok (.iconst 1, 1) := by decide +kernel
theorem dX7_nameHere_95 : decode cX7_nameHere 95 = .ok (.goto 4, 3) := by decide +kernel
theorem dX7_nameHere_98 : decode cX7_nameHere 98 = .ok (.iconst 0, 1) := by decide +kernel
theorem dX7_nameHere_99 : decode cX7_nameHere 99 = .ok (.istore_n 2, 1) := by decide +kernel
theorem dX7_nameHere_100 : decode cX7_nameHere 100 = .ok (.iinc 3 1, 3) := by decide +kernel
theorem dX7_nameHere_103 : decode cX7_nameHere 103 = .ok (.goto (-52), 3) := by decide +kernel
theorem dX7_nameHere_106 : decode cX7_nameHere 106 = .ok (.iload_n 2, 1) := by decide +kernel
theorem dX7_nameHere_107 : decode cX7_nameHere 107 = .ok (.ifCond .eq 5, 3) := by decide +kernel
theorem dX7_nameHere_110 : decode cX7_nameHere 110 = .ok (.iload_n 1, 1) := by decide +kernel
theorem dX7_nameHere_111 : decode cX7_nameHere 111 = .ok (.ireturn, 1) := by decide +kernel
theorem dX7_nameHere_112 : decode cX7_nameHere 112 = .ok (.iinc 1 1, 3) := by decide +kernel
theorem dX7_nameHere_115 : decode cX7_nameHere 115 = .ok (.goto (-113), 3) := by decide +kernel
theorem dX7_nameHere_118 : decode cX7_nameHere 118 = .ok (.bipush (-4), 2) := by decide +kernel
theorem dX7_nameHere_120 : decode cX7_nameHere 120 = .ok (.ireturn, 1) := by decide +kernel
theorem dX7_step_0 : decode cX7_step 0 = .ok (.aload_n 0, 1) := by decide +kernel
theorem dX7_step_1 : decode cX7_step 1 = .ok (.getfield 54, 3) := by decide +kernel
theorem dX7_step_4 : decode cX7_step 4 = .ok (.ifCond .le 4, 3) := by decide +kernel
theorem dX7_step_7 : decode cX7_step 7 = .ok (.return_, 1) := by decide +kernel
theorem dX7_step_8 : decode cX7_step 8 = .ok (.aload_n 0, 1) := by decide +kernel
theorem dX7_step_9 : decode cX7_step 9 = .ok (.aload_n 0, 1) := by decide +kernel
theorem dX7_step_10 : decode cX7_step 10 = .ok (.getfield 66, 3) := by decide +kernel
theorem dX7_step_13 : decode cX7_step 13 = .ok (.invokevirtual 69, 3) := by decide +kernel
theorem dX7_step_16 : decode cX7_step 16 = .ok (.bipush 32, 2) := by decide +kernel
theorem dX7_step_18 : decode cX7_step 18 = .ok (.if_icmp .ne 16, 3) := by decide +kernel
theorem dX7_step_21 : decode cX7_step 21 = .ok (.aload_n 0, 1) := by decide +kernel
theorem dX7_step_22 : decode cX7_step 22 = .ok (.dup, 1) := by decide +kernel
theorem dX7_step_23 : decode cX7_step 23 = .ok (.getfield 66, 3) := by decide +kernel
theorem dX7_step_26 : decode cX7_step 26 = .ok (.iconst 1, 1) := by decide +kernel
theorem dX7_step_27 : decode cX7_step 27 = .ok (.iadd, 1) := by decide +kernel
theorem dX7_step_28 : decode cX7_step 28 = .ok (.putfield 66, 3) := by decide +kernel
theorem dX7_step_31 : decode cX7_step 31 = .ok (.goto (-23), 3) := by decide +kernel
theorem dX7_step_34 : decode cX7_step 34 = .ok (.aload_n 0, 1) := by decide +kernel
theorem dX7_step_35 : decode cX7_step 35 = .ok (.aload_n 0, 1) := by decide +kernel
theorem dX7_step_36 : decode cX7_step 36 = .ok (.getfield 66, 3) := by decide +kernel
theorem dX7_step_39 : decode cX7_step 39 = .ok (.putfield 57, 3) := by decide +kernel
theorem dX7_step_42 : decode cX7_step 42 = .ok (.aload_n 0, 1) := by decide +kernel
theorem dX7_step_43 : decode cX7_step 43 = .ok (.aload_n 0, 1) := by decide +kernel
theorem dX7_step_44 : decode cX7_step 44 = .ok (.getfield 66, 3) := by decide +kernel
theorem dX7_step_47 : decode cX7_step 47 = .ok (.invokevirtual 69, 3) := by decide +kernel
theorem dX7_step_50 : decode cX7_step 50 = .ok (.istore_n 1, 1) := by decide +kernel
theorem dX7_step_51 : decode cX7_step 51 = .ok (.aload_n 0, 1) := by decide +kernel
theorem dX7_step_52 : decode cX7_step 52 = .ok (.iconst 0, 1) := by decide +kernel
theorem dX7_step_53 : decode cX7_step 53 = .ok (.putfield 73, 3) := by decide +kernel
theorem dX7_step_56 : decode cX7_step 56 = .ok (.iload_n 1, 1) := by decide +kernel
theorem dX7_step_57 : decode cX7_step 57 = .ok (.bipush (-4), 2) := by decide +kernel
theorem dX7_step_59 : decode cX7_step 59 = .ok (.if_icmp .ne 11, 3) := by decide +kernel
theorem dX7_step_62 : decode cX7_step 62 = .ok (.aload_n 0, 1) := by decide +kernel
theorem dX7_step_63 : decode cX7_step 63 = .ok (.iconst 0, 1) := by decide +kernel
theorem dX7_step_64 : decode cX7_step 64 = .ok (.putfield 63, 3) := by decide +kernel
theorem dX7_step_67 : decode cX7_step 67 = .ok (.goto 202, 3) := by decide +kernel
theorem dX7_step_70 : decode cX7_step 70 = .ok (.iload_n 1, 1) := by decide +kernel
theorem dX7_step_71 : decode cX7_step 71 = .ok (.i2l, 1) := by decide +kernel
theorem dX7_step_72 : decode cX7_step 72 = .ok (.ldc2_w 76, 3) := by decide +kernel
theorem dX7_step_75 : decode cX7_step 75 = .ok (.ldc2_w 78, 3) := by decide +kernel
theorem dX7_step_78 : decode cX7_step 78 = .ok (.invokestatic 46, 3) := by decide +kernel
theorem dX7_step_81 : decode cX7_step 81 = .ok (.ifCond .eq 45, 3) := by decide +kernel
theorem dX7_step_84 : decode cX7_step 84 = .ok (.aload_n 0, 1) := by decide +kernel
theorem dX7_step_85 : decode cX7_step 85 = .ok (.aload_n 0, 1) := by decide +kernel
theorem dX7_step_86 : decode cX7_step 86 = .ok (.getfield 66, 3) := by decide +kernel
theorem dX7_step_89 : decode cX7_step 89 = .ok (.invokevirtual 69, 3) := by decide +kernel
theorem dX7_step_92 : decode cX7_step 92 = .ok (.i2l, 1) := by decide +kernel
theorem dX7_step_93 : decode cX7_step 93 = .ok (.ldc2_w 76, 3) := by decide +kernel
theorem dX7_step_96 : decode cX7_step 96 = .ok (.ldc2_w 78, 3) := by decide +kernel
theorem dX7_step_99 : decode cX7_step 99 = .ok (.invokestatic 46, 3) := by decide +kernel
theorem dX7_step_102 : decode cX7_step 102 = .ok (.ifCond .eq 16, 3) := by decide +kernel
theorem dX7_step_105 : decode cX7_step 105 = .ok (.aload_n 0, 1) := by decide +kernel
theorem dX7_step_106 : decode cX7_step 106 = .ok (.dup, 1) := by decide +kernel
theorem dX7_step_107 : decode cX7_step 107 = .ok (.getfield 66, 3) := by decide +kernel
theorem dX7_step_110 : decode cX7_step 110 = .ok (.iconst 1, 1) := by decide +kernel
theorem dX7_step_111 : decode cX7_step 111 = .ok (.iadd, 1) := by decide +kernel
theorem dX7_step_112 : decode cX7_step 112 = .ok (.putfield 66, 3) := by decide +kernel
theorem dX7_step_115 : decode cX7_step 115 = .ok (.goto (-31), 3) := by decide +kernel
theorem dX7_step_118 : decode cX7_step 118 = .ok (.aload_n 0, 1) := by decide +kernel
theorem dX7_step_119 : decode cX7_step 119 = .ok (.iconst 1, 1) := by decide +kernel
theorem dX7_step_120 : decode cX7_step 120 = .ok (.putfield 63, 3) := by decide +kernel
theorem dX7_step_123 : decode cX7_step 123 = .ok (.goto 146, 3) := by decide +kernel
theorem dX7_step_126 : decode cX7_step 126 = .ok (.iload_n 1, 1) := by decide +kernel
theorem dX7_step_127 : decode cX7_step 127 = .ok (.i2l, 1) := by decide +kernel
theorem dX7_step_128 : decode cX7_step 128 = .ok (.ldc2_w 80, 3) := by decide +kernel
theorem dX7_step_131 : decode cX7_step 131 = .ok (.ldc2_w 82, 3) := by decide +kernel
theorem dX7_step_134 : decode cX7_step 134 = .ok (.invokestatic 46, 3) := by decide +kernel
theorem dX7_step_137 : decode cX7_step 137 = .ok (.ifCond .eq 106, 3) := by decide +kernel
theorem dX7_step_140 : decode cX7_step 140 = .ok (.aload_n 0, 1) := by decide +kernel
theorem dX7_step_141 : decode cX7_step 141 = .ok (.aload_n 0, 1) := by decide +kernel
theorem dX7_step_142 : decode cX7_step 142 = .ok (.getfield 66, 3) := by decide +kernel
theorem dX7_step_145 : decode cX7_step 145 = .ok (.invokevirtual 69, 3) := by decide +kernel
theorem dX7_step_148 : decode cX7_step 148 = .ok (.i2l, 1) := by decide +kernel
theorem dX7_step_149 : decode cX7_step 149 = .ok (.ldc2_w 80, 3) := by decide +kernel
theorem dX7_step_152 : decode cX7_step 152 = .ok (.ldc2_w 82, 3) := by decide +kernel
theorem dX7_step_155 : decode cX7_step 155 = .ok (.invokestatic 46, 3) := by decide +kernel
theorem dX7_step_158 : decode cX7_step 158 = .ok (.ifCond .eq 59, 3) := by decide +kernel
theorem dX7_step_161 : decode cX7_step 161 = .ok (.aload_n 0, 1) := by decide +kernel
theorem dX7_step_162 : decode cX7_step 162 = .ok (.aload_n 0, 1) := by decide +kernel
theorem dX7_step_163 : decode cX7_step 163 = .ok (.getfield 66, 3) := by decide +kernel
theorem dX7_step_166 : decode cX7_step 166 = .ok (.aload_n 0, 1) := by decide +kernel
theorem dX7_step_167 : decode cX7_step 167 = .ok (.getfield 57, 3) := by decide +kernel
theorem dX7_step_170 : decode cX7_step 170 = .ok (.isub, 1) := by decide +kernel
theorem dX7_step_171 : decode cX7_step 171 = .ok (.iconst 2, 1) := by decide +kernel
theorem dX7_step_172 : decode cX7_step 172 = .ok (.if_icmp .ge 25, 3) := by decide +kernel
theorem dX7_step_175 : decode cX7_step 175 = .ok (.bipush 10, 2) := by decide +kernel
theorem dX7_step_177 : decode cX7_step 177 = .ok (.aload_n 0, 1) := by decide +kernel
theorem dX7_step_178 : decode cX7_step 178 = .ok (.getfield 73, 3) := by decide +kernel
theorem dX7_step_181 : decode cX7_step 181 = .ok (.imul, 1) := by decide +kernel
theorem dX7_step_182 : decode cX7_step 182 = .ok (.aload_n 0, 1) := by decide +kernel
theorem dX7_step_183 : decode cX7_step 183 = .ok (.aload_n 0, 1) := by decide +kernel
theorem dX7_step_184 : decode cX7_step 184 = .ok (.getfield 66, 3) := by decide +kernel
theorem dX7_step_187 : decode cX7_step 187 = .ok (.invokevirtual 69, 3) := by decide +kernel
theorem dX7_step_190 : decode cX7_step 190 = .ok (.iadd, 1) := by decide +kernel
theorem dX7_step_191 : decode cX7_step 191 = .ok (.bipush 48, 2) := by decide +kernel
theorem dX7_step_193 : decode cX7_step 193 = .ok (.isub, 1) := by decide +kernel
theorem dX7_step_194 : decode cX7_step 194 = .ok (.goto 7, 3) := by decide +kernel
theorem dX7_step_197 : decode cX7_step 197 = .ok (.aload_n 0, 1) := by decide +kernel
theorem dX7_step_198 : decode cX7_step 198 = .ok (.getfield 73, 3) := by decide +kernel
theorem dX7_step_201 : decode cX7_step 201 = .ok (.putfield 73, 3) := by decide +kernel
theorem dX7_step_204 : decode cX7_step 204 = .ok (.aload_n 0, 1) := by decide +kernel
theorem dX7_step_205 : decode cX7_step 205 = .ok (.dup, 1) := by decide +kernel
theorem dX7_step_206 : decode cX7_step 206 = .ok (.getfield 66, 3) := by decide +kernel
theorem dX7_step_209 : decode cX7_step 209 = .ok (.iconst 1, 1) := by decide +kernel
theorem dX7_step_210 : decode cX7_step 210 = .ok (.iadd, 1) := by decide +kernel
theorem dX7_step_211 : decode cX7_step 211 = .ok (.putfield 66, 3) := by decide +kernel
theorem dX7_step_214 : decode cX7_step 214 = .ok (.goto (-74), 3) := by decide +kernel
theorem dX7_step_217 : decode cX7_step 217 = .ok (.aload_n 0, 1) := by decide +kernel
theorem dX7_step_218 : decode cX7_step 218 = .ok (.iconst 2, 1) := by decide +kernel
theorem dX7_step_219 : decode cX7_step 219 = .ok (.putfield 63, 3) := by decide +kernel
theorem dX7_step_222 : decode cX7_step 222 = .ok (.aload_n 0, 1) := by decide +kernel
theorem dX7_step_223 : decode cX7_step 223 = .ok (.getfield 66, 3) := by decide +kernel
theorem dX7_step_226 : decode cX7_step 226 = .ok (.aload_n 0, 1) := by decide +kernel
theorem dX7_step_227 : decode cX7_step 227 = .ok (.getfield 57, 3) := by decide +kernel
theorem dX7_step_230 : decode cX7_step 230 = .ok (.isub, 1) := by decide +kernel
theorem dX7_step_231 : decode cX7_step 231 = .ok (.iconst 2, 1) := by decide +kernel
theorem dX7_step_232 : decode cX7_step 232 = .ok (.if_icmp .le 37, 3) := by decide +kernel
theorem dX7_step_235 : decode cX7_step 235 = .ok (.aload_n 0, 1) := by decide +kernel
theorem dX7_step_236 : decode cX7_step 236 = .ok (.iconst 1, 1) := by decide +kernel
theorem dX7_step_237 : decode cX7_step 237 = .ok (.invokevirtual 84, 3) := by decide +kernel
theorem dX7_step_240 : decode cX7_step 240 = .ok (.goto 29, 3) := by decide +kernel
theorem dX7_step_243 : decode cX7_step 243 = .ok (.aload_n 0, 1) := by decide +kernel
theorem dX7_step_244 : decode cX7_step 244 = .ok (.iconst 3, 1) := by decide +kernel
theorem dX7_step_245 : decode cX7_step 245 = .ok (.putfield 63, 3) := by decide +kernel
theorem dX7_step_248 : decode cX7_step 248 = .ok (.aload_n 0, 1) := by decide +kernel
theorem dX7_step_249 : decode cX7_step 249 = .ok (.dup, 1) := by decide +kernel
theorem dX7_step_250 : decode cX7_step 250 = .ok (.getfield 66, 3) := by decide +kernel
theorem dX7_step_253 : decode cX7_step 253 = .ok (.iconst 1, 1) := by decide +kernel
theorem dX7_step_254 : decode cX7_step 254 = .ok (.iadd, 1) := by decide +kernel
theorem dX7_step_255 : decode cX7_step 255 = .ok (.putfield 66, 3) := by decide +kernel
theorem dX7_step_258 : decode cX7_step 258 = .ok (.iload_n 1, 1) := by decide +kernel
theorem dX7_step_259 : decode cX7_step 259 = .ok (.bipush 59, 2) := by decide +kernel
theorem dX7_step_261 : decode cX7_step 261 = .ok (.if_icmp .eq 8, 3) := by decide +kernel
theorem dX7_step_264 : decode cX7_step 264 = .ok (.aload_n 0, 1) := by decide +kernel
theorem dX7_step_265 : decode cX7_step 265 = .ok (.iconst 1, 1) := by decide +kernel
theorem dX7_step_266 : decode cX7_step 266 = .ok (.invokevirtual 84, 3) := by decide +kernel
theorem dX7_step_269 : decode cX7_step 269 = .ok (.return_, 1) := by decide +kernel
theorem dX7_number_0 : decode cX7_number 0 = .ok (.aload_n 0, 1) := by decide +kernel
theorem dX7_number_1 : decode cX7_number 1 = .ok (.getfield 54, 3) := by decide +kernel
theorem dX7_number_4 : decode cX7_number 4 = .ok (.ifCond .ne 16, 3) := by decide +kernel
theorem dX7_number_7 : decode cX7_number 7 = .ok (.aload_n 0, 1) := by decide +kernel
theorem dX7_number_8 : decode cX7_number 8 = .ok (.getfield 63, 3) := by decide +kernel
theorem dX7_number_11 : decode cX7_number 11 = .ok (.iconst 2, 1) := by decide +kernel
theorem dX7_number_12 : decode cX7_number 12 = .ok (.if_icmp .eq 8, 3) := by decide +kernel
theorem dX7_number_15 : decode cX7_number 15 = .ok (.aload_n 0, 1) := by decide +kernel
theorem dX7_number_16 : decode cX7_number 16 = .ok (.iconst 2, 1) := by decide +kernel
theorem dX7_number_17 : decode cX7_number 17 = .ok (.invokevirtual 84, 3) := by decide +kernel
theorem dX7_number_20 : decode cX7_number 20 = .ok (.aload_n 0, 1) := by decide +kernel
theorem dX7_number_21 : decode cX7_number 21 = .ok (.getfield 54, 3) := by decide +kernel
theorem dX7_number_24 : decode cX7_number 24 = .ok (.ifCond .ne 23, 3) := by decide +kernel
theorem dX7_number_27 : decode cX7_number 27 = .ok (.aload_n 0, 1) := by decide +kernel
theorem dX7_number_28 : decode cX7_number 28 = .ok (.getfield 73, 3) := by decide +kernel
theorem dX7_number_31 : decode cX7_number 31 = .ok (.i2l, 1) := by decide +kernel
theorem dX7_number_32 : decode cX7_number 32 = .ok (.iload_n 1, 1) := by decide +kernel
theorem dX7_number_33 : decode cX7_number 33 = .ok (.i2l, 1) := by decide +kernel
theorem dX7_number_34 : decode cX7_number 34 = .ok (.iload_n 2, 1) := by decide +kernel
theorem dX7_number_35 : decode cX7_number 35 = .ok (.i2l, 1) := by decide +kernel
theorem dX7_number_36 : decode cX7_number 36 = .ok (.invokestatic 46, 3) := by decide +kernel
theorem dX7_number_39 : decode cX7_number 39 = .ok (.ifCond .ne 8, 3) := by decide +kernel
theorem dX7_number_42 : decode cX7_number 42 = .ok (.aload_n 0, 1) := by decide +kernel
theorem dX7_number_43 : decode cX7_number 43 = .ok (.iconst 3, 1) := by decide +kernel
theorem dX7_number_44 : decode cX7_number 44 = .ok (.invokevirtual 84, 3) := by decide +kernel
theorem dX7_number_47 : decode cX7_number 47 = .ok (.aload_n 0, 1) := by decide +kernel
theorem dX7_number_48 : decode cX7_number 48 = .ok (.getfield 54, 3) := by decide +kernel
theorem dX7_number_51 : decode cX7_number 51 = .ok (.ifCond .ne 10, 3) := by decide +kernel
theorem dX7_number_54 : decode cX7_number 54 = .ok (.aload_n 0, 1) := by decide +kernel
theorem dX7_number_55 : decode cX7_number 55 = .ok (.getfield 73, 3) := by decide +kernel
theorem dX7_number_58 : decode cX7_number 58 = .ok (.goto 4, 3) := by decide +kernel
theorem dX7_number_61 : decode cX7_number 61 = .ok (.iload_n 1, 1) := by decide +kernel
theorem dX7_number_62 : decode cX7_number 62 = .ok (.istore_n 3, 1) := by decide +kernel
theorem dX7_number_63 : decode cX7_number 63 = .ok (.aload_n 0, 1) := by decide +kernel
theorem dX7_number_64 : decode cX7_number 64 = .ok (.invokevirtual 88, 3) := by decide +kernel
theorem dX7_number_67 : decode cX7_number 67 = .ok (.iload_n 3, 1) := by decide +kernel
theorem dX7_number_68 : decode cX7_number 68 = .ok (.ireturn, 1) := by decide +kernel
theorem dX7_readThing_0 : decode cX7_readThing 0 = .ok (.aload_n 0, 1) := by decide +kernel
theorem dX7_readThing_1 : decode cX7_readThing 1 = .ok (.iconst 0, 1) := by decide +kernel
theorem dX7_readThing_2 : decode cX7_readThing 2 = .ok (.iconst 3, 1) := by decide +kernel
theorem dX7_readThing_3 : decode cX7_readThing 3 = .ok (.invokevirtual 91, 3) := by decide +kernel
theorem dX7_readThing_6 : decode cX7_readThing 6 = .ok (.istore_n 2, 1) := by decide +kernel
theorem dX7_readThing_7 : decode cX7_readThing 7 = .ok (.aload_n 0, 1) := by decide +kernel
theorem dX7_readThing_8 : decode cX7_readThing 8 = .ok (.iload_n 2, 1) := by decide +kernel
theorem dX7_readThing_9 : decode cX7_readThing 9 = .ok (.aload_n 0, 1) := by decide +kernel
theorem dX7_readThing_10 : decode cX7_readThing 10 = .ok (.getfield 95, 3) := by decide +kernel
theorem dX7_readThing_13 : decode cX7_readThing 13 = .ok (.if_icmp .le 7, 3) := by decide +kernel
theorem dX7_readThing_16 : decode cX7_readThing 16 = .ok (.iload_n 2, 1) := by decide +kernel
theorem dX7_readThing_17 : decode cX7_readThing 17 = .ok (.goto 7, 3) := by decide +kernel
theorem dX7_readThing_20 : decode cX7_readThing 20 = .ok (.aload_n 0, 1) := by decide +kernel
theorem dX7_readThing_21 : decode cX7_readThing 21 = .ok (.getfield 95, 3) := by decide +kernel
theorem dX7_readThing_24 : decode cX7_readThing 24 = .ok (.putfield 95, 3) := by decide +kernel
theorem dX7_readThing_27 : decode cX7_readThing 27 = .ok (.aload_n 0, 1) := by decide +kernel
theorem dX7_readThing_28 : decode cX7_readThing 28 = .ok (.getfield 13, 3) := by decide +kernel
theorem dX7_readThing_31 : decode cX7_readThing 31 = .ok (.bipush 20, 2) := by decide +kernel
theorem dX7_readThing_33 : decode cX7_readThing 33 = .ok (.aload_n 0, 1) := by decide +kernel
theorem dX7_readThing_34 : decode cX7_readThing 34 = .ok (.getfield 98, 3) := by decide +kernel
theorem dX7_readThing_37 : decode cX7_readThing 37 = .ok (.iadd, 1) := by decide +kernel
theorem dX7_readThing_38 : decode cX7_readThing 38 = .ok (.iload_n 1, 1) := by decide +kernel
theorem dX7_readThing_39 : decode cX7_readThing 39 = .ok (.iastore, 1) := by decide +kernel
theorem dX7_readThing_40 : decode cX7_readThing 40 = .ok (.aload_n 0, 1) := by decide +kernel
theorem dX7_readThing_41 : decode cX7_readThing 41 = .ok (.getfield 13, 3) := by decide +kernel
theorem dX7_readThing_44 : decode cX7_readThing 44 = .ok (.bipush 28, 2) := by decide +kernel
theorem dX7_readThing_46 : decode cX7_readThing 46 = .ok (.aload_n 0, 1) := by decide +kernel
theorem dX7_readThing_47 : decode cX7_readThing 47 = .ok (.getfield 98, 3) := by decide +kernel
theorem dX7_readThing_50 : decode cX7_readThing 50 = .ok (.iadd, 1) := by decide +kernel
theorem dX7_readThing_51 : decode cX7_readThing 51 = .ok (.iload_n 2, 1) := by decide +kernel
theorem dX7_readThing_52 : decode cX7_readThing 52 = .ok (.iastore, 1) := by decide +kernel
theorem dX7_readThing_53 : decode cX7_readThing 53 = .ok (.aload_n 0, 1) := by decide +kernel
theorem dX7_readThing_54 : decode cX7_readThing 54 = .ok (.getfield 13, 3) := by decide +kernel
theorem dX7_readThing_57 : decode cX7_readThing 57 = .ok (.bipush 36, 2) := by decide +kernel
theorem dX7_readThing_59 : decode cX7_readThing 59 = .ok (.aload_n 0, 1) := by decide +kernel
theorem dX7_readThing_60 : decode cX7_readThing 60 = .ok (.getfield 98, 3) := by decide +kernel
theorem dX7_readThing_63 : decode cX7_readThing 63 = .ok (.iadd, 1) := by decide +kernel
theorem dX7_readThing_64 : decode cX7_readThing 64 = .ok (.aload_n 0, 1) := by decide +kernel
theorem dX7_readThing_65 : decode cX7_readThing 65 = .ok (.iconst 1, 1) := by decide +kernel
theorem dX7_readThing_66 : decode cX7_readThing 66 = .ok (.bipush 9, 2) := by decide +kernel
theorem dX7_readThing_68 : decode cX7_readThing 68 = .ok (.invokevirtual 91, 3) := by decide +kernel
theorem dX7_readThing_71 : decode cX7_readThing 71 = .ok (.iastore, 1) := by decide +kernel
theorem dX7_readThing_72 : decode cX7_readThing 72 = .ok (.aload_n 0, 1) := by decide +kernel
theorem dX7_readThing_73 : decode cX7_readThing 73 = .ok (.getfield 13, 3) := by decide +kernel
theorem dX7_readThing_76 : decode cX7_readThing 76 = .ok (.bipush 44, 2) := by decide +kernel
theorem dX7_readThing_78 : decode cX7_readThing 78 = .ok (.aload_n 0, 1) := by decide +kernel
theorem dX7_readThing_79 : decode cX7_readThing 79 = .ok (.getfield 98, 3) := by decide +kernel
theorem dX7_readThing_82 : decode cX7_readThing 82 = .ok (.iadd, 1) := by decide +kernel
theorem dX7_readThing_83 : decode cX7_readThing 83 = .ok (.aload_n 0, 1) := by decide +kernel
theorem dX7_readThing_84 : decode cX7_readThing 84 = .ok (.iconst 0, 1) := by decide +kernel
theorem dX7_readThing_85 : decode cX7_readThing 85 = .ok (.bipush 9, 2) := by decide +kernel
theorem dX7_readThing_87 : decode cX7_readThing 87 = .ok (.invokevirtual 91, 3) := by decide +kernel
theorem dX7_readThing_90 : decode cX7_readThing 90 = .ok (.iastore, 1) := by decide +kernel
theorem dX7_readThing_91 : decode cX7_readThing 91 = .ok (.aload_n 0, 1) := by decide +kernel
theorem dX7_readThing_92 : decode cX7_readThing 92 = .ok (.dup, 1) := by decide +kernel
theorem dX7_readThing_93 : decode cX7_readThing 93 = .ok (.getfield 98, 3) := by decide +kernel
theorem dX7_readThing_96 : decode cX7_readThing 96 = .ok (.iconst 1, 1) := by decide +kernel
theorem dX7_readThing_97 : decode cX7_readThing 97 = .ok (.iadd, 1) := by decide +kernel
theorem dX7_readThing_98 : decode cX7_readThing 98 = .ok (.putfield 98, 3) := by decide +kernel
theorem dX7_readThing_101 : decode cX7_readThing 101 = .ok (.return_, 1) := by decide +kernel
theorem dX7_readHouse_0 : decode cX7_readHouse 0 = .ok (.aload_n 0, 1) := by decide +kernel
theorem dX7_readHouse_1 : decode cX7_readHouse 1 = .ok (.getfield 13, 3) := by decide +kernel
theorem dX7_readHouse_4 : decode cX7_readHouse 4 = .ok (.aload_n 0, 1) := by decide +kernel
theorem dX7_readHouse_5 : decode cX7_readHouse 5 = .ok (.getfield 101, 3) := by decide +kernel
theorem dX7_readHouse_8 : decode cX7_readHouse 8 = .ok (.aload_n 0, 1) := by decide +kernel
theorem dX7_readHouse_9 : decode cX7_readHouse 9 = .ok (.iconst 0, 1) := by decide +kernel
theorem dX7_readHouse_10 : decode cX7_readHouse 10 = .ok (.bipush 20, 2) := by decide +kernel
theorem dX7_readHouse_12 : decode cX7_readHouse 12 = .ok (.invokevirtual 91, 3) := by decide +kernel
theorem dX7_readHouse_15 : decode cX7_readHouse 15 = .ok (.iastore, 1) := by decide +kernel
theorem dX7_readHouse_16 : decode cX7_readHouse 16 = .ok (.aload_n 0, 1) := by decide +kernel
theorem dX7_readHouse_17 : decode cX7_readHouse 17 = .ok (.getfield 13, 3) := by decide +kernel
theorem dX7_readHouse_20 : decode cX7_readHouse 20 = .ok (.iconst 4, 1) := by decide +kernel
theorem dX7_readHouse_21 : decode cX7_readHouse 21 = .ok (.aload_n 0, 1) := by decide +kernel
theorem dX7_readHouse_22 : decode cX7_readHouse 22 = .ok (.getfield 101, 3) := by decide +kernel
theorem dX7_readHouse_25 : decode cX7_readHouse 25 = .ok (.iadd, 1) := by decide +kernel
theorem dX7_readHouse_26 : decode cX7_readHouse 26 = .ok (.aload_n 0, 1) := by decide +kernel
theorem dX7_readHouse_27 : decode cX7_readHouse 27 = .ok (.iconst 0, 1) := by decide +kernel
theorem dX7_readHouse_28 : decode cX7_readHouse 28 = .ok (.bipush 40, 2) := by decide +kernel
theorem dX7_readHouse_30 : decode cX7_readHouse 30 = .ok (.invokevirtual 91, 3) := by decide +kernel
theorem dX7_readHouse_33 : decode cX7_readHouse 33 = .ok (.iastore, 1) := by decide +kernel
theorem dX7_readHouse_34 : decode cX7_readHouse 34 = .ok (.aload_n 0, 1) := by decide +kernel
theorem dX7_readHouse_35 : decode cX7_readHouse 35 = .ok (.getfield 13, 3) := by decide +kernel
theorem dX7_readHouse_38 : decode cX7_readHouse 38 = .ok (.bipush 8, 2) := by decide +kernel
theorem dX7_readHouse_40 : decode cX7_readHouse 40 = .ok (.aload_n 0, 1) := by decide +kernel
theorem dX7_readHouse_41 : decode cX7_readHouse 41 = .ok (.getfield 101, 3) := by decide +kernel
theorem dX7_readHouse_44 : decode cX7_readHouse 44 = .ok (.iadd, 1) := by decide +kernel
theorem dX7_readHouse_45 : decode cX7_readHouse 45 = .ok (.aload_n 0, 1) := by decide +kernel
theorem dX7_readHouse_46 : decode cX7_readHouse 46 = .ok (.iconst 0, 1) := by decide +kernel
theorem dX7_readHouse_47 : decode cX7_readHouse 47 = .ok (.iconst 3, 1) := by decide +kernel
theorem dX7_readHouse_48 : decode cX7_readHouse 48 = .ok (.invokevirtual 91, 3) := by decide +kernel
theorem dX7_readHouse_51 : decode cX7_readHouse 51 = .ok (.iastore, 1) := by decide +kernel
theorem dX7_readHouse_52 : decode cX7_readHouse 52 = .ok (.aload_n 0, 1) := by decide +kernel
theorem dX7_readHouse_53 : decode cX7_readHouse 53 = .ok (.getfield 13, 3) := by decide +kernel
theorem dX7_readHouse_56 : decode cX7_readHouse 56 = .ok (.bipush 12, 2) := by decide +kernel
theorem dX7_readHouse_58 : decode cX7_readHouse 58 = .ok (.aload_n 0, 1) := by decide +kernel
theorem dX7_readHouse_59 : decode cX7_readHouse 59 = .ok (.getfield 101, 3) := by decide +kernel
theorem dX7_readHouse_62 : decode cX7_readHouse 62 = .ok (.iadd, 1) := by decide +kernel
theorem dX7_readHouse_63 : decode cX7_readHouse 63 = .ok (.bipush 50, 2) := by decide +kernel
theorem dX7_readHouse_65 : decode cX7_readHouse 65 = .ok (.iastore, 1) := by decide +kernel
theorem dX7_readHouse_66 : decode cX7_readHouse 66 = .ok (.aload_n 0, 1) := by decide +kernel
theorem dX7_readHouse_67 : decode cX7_readHouse 67 = .ok (.dup, 1) := by decide +kernel
theorem dX7_readHouse_68 : decode cX7_readHouse 68 = .ok (.getfield 101, 3) := by decide +kernel
theorem dX7_readHouse_71 : decode cX7_readHouse 71 = .ok (.iconst 1, 1) := by decide +kernel
theorem dX7_readHouse_72 : decode cX7_readHouse 72 = .ok (.iadd, 1) := by decide +kernel
theorem dX7_readHouse_73 : decode cX7_readHouse 73 = .ok (.putfield 101, 3) := by decide +kernel
theorem dX7_readHouse_76 : decode cX7_readHouse 76 = .ok (.return_, 1) := by decide +kernel
theorem dX7_readRise_0 : decode cX7_readRise 0 = .ok (.aload_n 0, 1) := by decide +kernel
theorem dX7_readRise_1 : decode cX7_readRise 1 = .ok (.getfield 54, 3) := by decide +kernel
theorem dX7_readRise_4 : decode cX7_readRise 4 = .ok (.ifCond .ne 46, 3) := by decide +kernel
theorem dX7_readRise_7 : decode cX7_readRise 7 = .ok (.aload_n 0, 1) := by decide +kernel
theorem dX7_readRise_8 : decode cX7_readRise 8 = .ok (.getfield 63, 3) := by decide +kernel
theorem dX7_readRise_11 : decode cX7_readRise 11 = .ok (.iconst 2, 1) := by decide +kernel
theorem dX7_readRise_12 : decode cX7_readRise 12 = .ok (.if_icmp .ne 38, 3) := by decide +kernel
theorem dX7_readRise_15 : decode cX7_readRise 15 = .ok (.aload_n 0, 1) := by decide +kernel
theorem dX7_readRise_16 : decode cX7_readRise 16 = .ok (.getfield 73, 3) := by decide +kernel
theorem dX7_readRise_19 : decode cX7_readRise 19 = .ok (.i2l, 1) := by decide +kernel
theorem dX7_readRise_20 : decode cX7_readRise 20 = .ok (.lconst 0, 1) := by decide +kernel
theorem dX7_readRise_21 : decode cX7_readRise 21 = .ok (.ldc2_w 104, 3) := by decide +kernel
theorem dX7_readRise_24 : decode cX7_readRise 24 = .ok (.invokestatic 46, 3) := by decide +kernel
theorem dX7_readRise_27 : decode cX7_readRise 27 = .ok (.ifCond .eq 23, 3) := by decide +kernel
theorem dX7_readRise_30 : decode cX7_readRise 30 = .ok (.aload_n 0, 1) := by decide +kernel
theorem dX7_readRise_31 : decode cX7_readRise 31 = .ok (.getfield 106, 3) := by decide +kernel
theorem dX7_readRise_34 : decode cX7_readRise 34 = .ok (.aload_n 0, 1) := by decide +kernel
theorem dX7_readRise_35 : decode cX7_readRise 35 = .ok (.getfield 73, 3) := by decide +kernel
theorem dX7_readRise_38 : decode cX7_readRise 38 = .ok (.ishr, 1) := by decide +kernel
theorem dX7_readRise_39 : decode cX7_readRise 39 = .ok (.iconst 1, 1) := by decide +kernel
theorem dX7_readRise_40 : decode cX7_readRise 40 = .ok (.iand, 1) := by decide +kernel
theorem dX7_readRise_41 : decode cX7_readRise 41 = .ok (.iconst 1, 1) := by decide +kernel
theorem dX7_readRise_42 : decode cX7_readRise 42 = .ok (.if_icmp .ne 8, 3) := by decide +kernel
theorem dX7_readRise_45 : decode cX7_readRise 45 = .ok (.aload_n 0, 1) := by decide +kernel
theorem dX7_readRise_46 : decode cX7_readRise 46 = .ok (.iconst 4, 1) := by decide +kernel
theorem dX7_readRise_47 : decode cX7_readRise 47 = .ok (.invokevirtual 84, 3) := by decide +kernel
theorem dX7_readRise_50 : decode cX7_readRise 50 = .ok (.aload_n 0, 1) := by decide +kernel
theorem dX7_readRise_51 : decode cX7_readRise 51 = .ok (.iconst 0, 1) := by decide +kernel
theorem dX7_readRise_52 : decode cX7_readRise 52 = .ok (.bipush 6, 2) := by decide +kernel
theorem dX7_readRise_54 : decode cX7_readRise 54 = .ok (.invokevirtual 91, 3) := by decide +kernel
theorem dX7_readRise_57 : decode cX7_readRise 57 = .ok (.istore_n 1, 1) := by decide +kernel
theorem dX7_readRise_58 : decode cX7_readRise 58 = .ok (.aload_n 0, 1) := by decide +kernel
theorem dX7_readRise_59 : decode cX7_readRise 59 = .ok (.dup, 1) := by decide +kernel
theorem dX7_readRise_60 : decode cX7_readRise 60 = .ok (.getfield 106, 3) := by decide +kernel
theorem dX7_readRise_63 : decode cX7_readRise 63 = .ok (.iconst 1, 1) := by decide +kernel
theorem dX7_readRise_64 : decode cX7_readRise 64 = .ok (.iload_n 1, 1) := by decide +kernel
theorem dX7_readRise_65 : decode cX7_readRise 65 = .ok (.ishl, 1) := by decide +kernel
theorem dX7_readRise_66 : decode cX7_readRise 66 = .ok (.ior, 1) := by decide +kernel
theorem dX7_readRise_67 : decode cX7_readRise 67 = .ok (.putfield 106, 3) := by decide +kernel
theorem dX7_readRise_70 : decode cX7_readRise 70 = .ok (.aload_n 0, 1) := by decide +kernel
theorem dX7_readRise_71 : decode cX7_readRise 71 = .ok (.getfield 13, 3) := by decide +kernel
theorem dX7_readRise_74 : decode cX7_readRise 74 = .ok (.bipush 60, 2) := by decide +kernel
theorem dX7_readRise_76 : decode cX7_readRise 76 = .ok (.iload_n 1, 1) := by decide +kernel
theorem dX7_readRise_77 : decode cX7_readRise 77 = .ok (.iadd, 1) := by decide +kernel
theorem dX7_readRise_78 : decode cX7_readRise 78 = .ok (.aload_n 0, 1) := by decide +kernel
theorem dX7_readRise_79 : decode cX7_readRise 79 = .ok (.iconst 0, 1) := by decide +kernel
theorem dX7_readRise_80 : decode cX7_readRise 80 = .ok (.bipush 8, 2) := by decide +kernel
theorem dX7_readRise_82 : decode cX7_readRise 82 = .ok (.invokevirtual 91, 3) := by decide +kernel
theorem dX7_readRise_85 : decode cX7_readRise 85 = .ok (.iconst 4, 1) := by decide +kernel
theorem dX7_readRise_86 : decode cX7_readRise 86 = .ok (.isub, 1) := by decide +kernel
theorem dX7_readRise_87 : decode cX7_readRise 87 = .ok (.iastore, 1) := by decide +kernel
theorem dX7_readRise_88 : decode cX7_readRise 88 = .ok (.return_, 1) := by decide +kernel
theorem dX7_readMore_0 : decode cX7_readMore 0 = .ok (.iload_n 1, 1) := by decide +kernel
theorem dX7_readMore_1 : decode cX7_readMore 1 = .ok (.iconst 3, 1) := by decide +kernel
theorem dX7_readMore_2 : decode cX7_readMore 2 = .ok (.if_icmp .gt 11, 3) := by decide +kernel
theorem dX7_readMore_5 : decode cX7_readMore 5 = .ok (.aload_n 0, 1) := by decide +kernel
theorem dX7_readMore_6 : decode cX7_readMore 6 = .ok (.iload_n 1, 1) := by decide +kernel
theorem dX7_readMore_7 : decode cX7_readMore 7 = .ok (.invokevirtual 109, 3) := by decide +kernel
theorem dX7_readMore_10 : decode cX7_readMore 10 = .ok (.goto 66, 3) := by decide +kernel
theorem dX7_readMore_13 : decode cX7_readMore 13 = .ok (.iload_n 1, 1) := by decide +kernel
theorem dX7_readMore_14 : decode cX7_readMore 14 = .ok (.iconst 4, 1) := by decide +kernel
theorem dX7_readMore_15 : decode cX7_readMore 15 = .ok (.if_icmp .ne 10, 3) := by decide +kernel
theorem dX7_readMore_18 : decode cX7_readMore 18 = .ok (.aload_n 0, 1) := by decide +kernel
theorem dX7_readMore_19 : decode cX7_readMore 19 = .ok (.invokevirtual 112, 3) := by decide +kernel
theorem dX7_readMore_22 : decode cX7_readMore 22 = .ok (.goto 54, 3) := by decide +kernel
theorem dX7_readMore_25 : decode cX7_readMore 25 = .ok (.iload_n 1, 1) := by decide +kernel
theorem dX7_readMore_26 : decode cX7_readMore 26 = .ok (.iconst 5, 1) := by decide +kernel
theorem dX7_readMore_27 : decode cX7_readMore 27 = .ok (.if_icmp .ne 10, 3) := by decide +kernel
theorem dX7_readMore_30 : decode cX7_readMore 30 = .ok (.aload_n 0, 1) := by decide +kernel
theorem dX7_readMore_31 : decode cX7_readMore 31 = .ok (.invokevirtual 115, 3) := by decide +kernel
theorem dX7_readMore_34 : decode cX7_readMore 34 = .ok (.goto 42, 3) := by decide +kernel
theorem dX7_readMore_37 : decode cX7_readMore 37 = .ok (.iload_n 1, 1) := by decide +kernel
theorem dX7_readMore_38 : decode cX7_readMore 38 = .ok (.bipush 6, 2) := by decide +kernel
theorem dX7_readMore_40 : decode cX7_readMore 40 = .ok (.if_icmp .ne 22, 3) := by decide +kernel
theorem dX7_readMore_43 : decode cX7_readMore 43 = .ok (.aload_n 0, 1) := by decide +kernel
theorem dX7_readMore_44 : decode cX7_readMore 44 = .ok (.getfield 13, 3) := by decide +kernel
theorem dX7_readMore_47 : decode cX7_readMore 47 = .ok (.bipush 67, 2) := by decide +kernel
theorem dX7_readMore_49 : decode cX7_readMore 49 = .ok (.aload_n 0, 1) := by decide +kernel
theorem dX7_readMore_50 : decode cX7_readMore 50 = .ok (.iconst 0, 1) := by decide +kernel
theorem dX7_readMore_51 : decode cX7_readMore 51 = .ok (.bipush 8, 2) := by decide +kernel
theorem dX7_readMore_53 : decode cX7_readMore 53 = .ok (.invokevirtual 91, 3) := by decide +kernel
theorem dX7_readMore_56 : decode cX7_readMore 56 = .ok (.iconst 4, 1) := by decide +kernel
theorem dX7_readMore_57 : decode cX7_readMore 57 = .ok (.isub, 1) := by decide +kernel
theorem dX7_readMore_58 : decode cX7_readMore 58 = .ok (.iastore, 1) := by decide +kernel
theorem dX7_readMore_59 : decode cX7_readMore 59 = .ok (.goto 17, 3) := by decide +kernel
theorem dX7_readMore_62 : decode cX7_readMore 62 = .ok (.aload_n 0, 1) := by decide +kernel
theorem dX7_readMore_63 : decode cX7_readMore 63 = .ok (.getfield 13, 3) := by decide +kernel
theorem dX7_readMore_66 : decode cX7_readMore 66 = .ok (.bipush 68, 2) := by decide +kernel
theorem dX7_readMore_68 : decode cX7_readMore 68 = .ok (.aload_n 0, 1) := by decide +kernel
theorem dX7_readMore_69 : decode cX7_readMore 69 = .ok (.iconst 0, 1) := by decide +kernel
theorem dX7_readMore_70 : decode cX7_readMore 70 = .ok (.bipush 20, 2) := by decide +kernel
theorem dX7_readMore_72 : decode cX7_readMore 72 = .ok (.invokevirtual 91, 3) := by decide +kernel
theorem dX7_readMore_75 : decode cX7_readMore 75 = .ok (.iastore, 1) := by decide +kernel
theorem dX7_readMore_76 : decode cX7_readMore 76 = .ok (.return_, 1) := by decide +kernel
theorem dX7_readLine_0 : decode cX7_readLine 0 = .ok (.aload_n 0, 1) := by decide +kernel
theorem dX7_readLine_1 : decode cX7_readLine 1 = .ok (.invokevirtual 118, 3) := by decide +kernel
theorem dX7_readLine_4 : decode cX7_readLine 4 = .ok (.istore_n 1, 1) := by decide +kernel
theorem dX7_readLine_5 : decode cX7_readLine 5 = .ok (.iload_n 1, 1) := by decide +kernel
theorem dX7_readLine_6 : decode cX7_readLine 6 = .ok (.i2l, 1) := by decide +kernel
theorem dX7_readLine_7 : decode cX7_readLine 7 = .ok (.lconst 0, 1) := by decide +kernel
theorem dX7_readLine_8 : decode cX7_readLine 8 = .ok (.ldc2_w 122, 3) := by decide +kernel
theorem dX7_readLine_11 : decode cX7_readLine 11 = .ok (.invokestatic 46, 3) := by decide +kernel
theorem dX7_readLine_14 : decode cX7_readLine 14 = .ok (.ifCond .ne 9, 3) := by decide +kernel
theorem dX7_readLine_17 : decode cX7_readLine 17 = .ok (.aload_n 0, 1) := by decide +kernel
theorem dX7_readLine_18 : decode cX7_readLine 18 = .ok (.iconst 2, 1) := by decide +kernel
theorem dX7_readLine_19 : decode cX7_readLine 19 = .ok (.invokevirtual 84, 3) := by decide +kernel
theorem dX7_readLine_22 : decode cX7_readLine 22 = .ok (.return_, 1) := by decide +kernel
theorem dX7_readLine_23 : decode cX7_readLine 23 = .ok (.iload_n 1, 1) := by decide +kernel
theorem dX7_readLine_24 : decode cX7_readLine 24 = .ok (.iconst 3, 1) := by decide +kernel
theorem dX7_readLine_25 : decode cX7_readLine 25 = .ok (.if_icmp .gt 12, 3) := by decide +kernel
theorem dX7_readLine_28 : decode cX7_readLine 28 = .ok (.aload_n 0, 1) := by decide +kernel
theorem dX7_readLine_29 : decode cX7_readLine 29 = .ok (.getfield 98, 3) := by decide +kernel
theorem dX7_readLine_32 : decode cX7_readLine 32 = .ok (.bipush 8, 2) := by decide +kernel
theorem dX7_readLine_34 : decode cX7_readLine 34 = .ok (.if_icmp .eq 16, 3) := by decide +kernel
theorem dX7_readLine_37 : decode cX7_readLine 37 = .ok (.iload_n 1, 1) := by decide +kernel
theorem dX7_readLine_38 : decode cX7_readLine 38 = .ok (.iconst 4, 1) := by decide +kernel
theorem dX7_readLine_39 : decode cX7_readLine 39 = .ok (.if_icmp .ne 16, 3) := by decide +kernel
theorem dX7_readLine_42 : decode cX7_readLine 42 = .ok (.aload_n 0, 1) := by decide +kernel
theorem dX7_readLine_43 : decode cX7_readLine 43 = .ok (.getfield 101, 3) := by decide +kernel
theorem dX7_readLine_46 : decode cX7_readLine 46 = .ok (.iconst 4, 1) := by decide +kernel
theorem dX7_readLine_47 : decode cX7_readLine 47 = .ok (.if_icmp .ne 8, 3) := by decide +kernel
theorem dX7_readLine_50 : decode cX7_readLine 50 = .ok (.aload_n 0, 1) := by decide +kernel
theorem dX7_readLine_51 : decode cX7_readLine 51 = .ok (.iconst 5, 1) := by decide +kernel
theorem dX7_readLine_52 : decode cX7_readLine 52 = .ok (.invokevirtual 84, 3) := by decide +kernel
theorem dX7_readLine_55 : decode cX7_readLine 55 = .ok (.iload_n 1, 1) := by decide +kernel
theorem dX7_readLine_56 : decode cX7_readLine 56 = .ok (.bipush 6, 2) := by decide +kernel
theorem dX7_readLine_58 : decode cX7_readLine 58 = .ok (.if_icmp .lt 20, 3) := by decide +kernel
theorem dX7_readLine_61 : decode cX7_readLine 61 = .ok (.aload_n 0, 1) := by decide +kernel
theorem dX7_readLine_62 : decode cX7_readLine 62 = .ok (.getfield 124, 3) := by decide +kernel
theorem dX7_readLine_65 : decode cX7_readLine 65 = .ok (.iload_n 1, 1) := by decide +kernel
theorem dX7_readLine_66 : decode cX7_readLine 66 = .ok (.ishr, 1) := by decide +kernel
theorem dX7_readLine_67 : decode cX7_readLine 67 = .ok (.iconst 1, 1) := by decide +kernel
theorem dX7_readLine_68 : decode cX7_readLine 68 = .ok (.iand, 1) := by decide +kernel
theorem dX7_readLine_69 : decode cX7_readLine 69 = .ok (.iconst 1, 1) := by decide +kernel
theorem dX7_readLine_70 : decode cX7_readLine 70 = .ok (.if_icmp .ne 8, 3) := by decide +kernel
theorem dX7_readLine_73 : decode cX7_readLine 73 = .ok (.aload_n 0, 1) := by decide +kernel
theorem dX7_readLine_74 : decode cX7_readLine 74 = .ok (.iconst 4, 1) := by decide +kernel
theorem dX7_readLine_75 : decode cX7_readLine 75 = .ok (.invokevirtual 84, 3) := by decide +kernel
theorem dX7_readLine_78 : decode cX7_readLine 78 = .ok (.aload_n 0, 1) := by decide +kernel
theorem dX7_readLine_79 : decode cX7_readLine 79 = .ok (.dup, 1) := by decide +kernel
theorem dX7_readLine_80 : decode cX7_readLine 80 = .ok (.getfield 124, 3) := by decide +kernel
theorem dX7_readLine_83 : decode cX7_readLine 83 = .ok (.iconst 1, 1) := by decide +kernel
theorem dX7_readLine_84 : decode cX7_readLine 84 = .ok (.iload_n 1, 1) := by decide +kernel
theorem dX7_readLine_85 : decode cX7_readLine 85 = .ok (.ishl, 1) := by decide +kernel
theorem dX7_readLine_86 : decode cX7_readLine 86 = .ok (.ior, 1) := by decide +kernel
theorem dX7_readLine_87 : decode cX7_readLine 87 = .ok (.putfield 124, 3) := by decide +kernel
theorem dX7_readLine_90 : decode cX7_readLine 90 = .ok (.aload_n 0, 1) := by decide +kernel
theorem dX7_readLine_91 : decode cX7_readLine 91 = .ok (.invokevirtual 88, 3) := by decide +kernel
theorem dX7_readLine_94 : decode cX7_readLine 94 = .ok (.aload_n 0, 1) := by decide +kernel
theorem dX7_readLine_95 : decode cX7_readLine 95 = .ok (.getfield 54, 3) := by decide +kernel
theorem dX7_readLine_98 : decode cX7_readLine 98 = .ok (.ifCond .le 4, 3) := by decide +kernel
theorem dX7_readLine_101 : decode cX7_readLine 101 = .ok (.return_, 1) := by decide +kernel
theorem dX7_readLine_102 : decode cX7_readLine 102 = .ok (.aload_n 0, 1) := by decide +kernel
theorem dX7_readLine_103 : decode cX7_readLine 103 = .ok (.iload_n 1, 1) := by decide +kernel
theorem dX7_readLine_104 : decode cX7_readLine 104 = .ok (.invokevirtual 127, 3) := by decide +kernel
theorem dX7_readLine_107 : decode cX7_readLine 107 = .ok (.aload_n 0, 1) := by decide +kernel
theorem dX7_readLine_108 : decode cX7_readLine 108 = .ok (.getfield 54, 3) := by decide +kernel
theorem dX7_readLine_111 : decode cX7_readLine 111 = .ok (.ifCond .ne 16, 3) := by decide +kernel
theorem dX7_readLine_114 : decode cX7_readLine 114 = .ok (.aload_n 0, 1) := by decide +kernel
theorem dX7_readLine_115 : decode cX7_readLine 115 = .ok (.getfield 63, 3) := by decide +kernel
theorem dX7_readLine_118 : decode cX7_readLine 118 = .ok (.iconst 3, 1) := by decide +kernel
theorem dX7_readLine_119 : decode cX7_readLine 119 = .ok (.if_icmp .eq 8, 3) := by decide +kernel
theorem dX7_readLine_122 : decode cX7_readLine 122 = .ok (.aload_n 0, 1) := by decide +kernel
theorem dX7_readLine_123 : decode cX7_readLine 123 = .ok (.iconst 2, 1) := by decide +kernel
theorem dX7_readLine_124 : decode cX7_readLine 124 = .ok (.invokevirtual 84, 3) := by decide +kernel
theorem dX7_readLine_127 : decode cX7_readLine 127 = .ok (.aload_n 0, 1) := by decide +kernel
theorem dX7_readLine_128 : decode cX7_readLine 128 = .ok (.invokevirtual 88, 3) := by decide +kernel
theorem dX7_readLine_131 : decode cX7_readLine 131 = .ok (.return_, 1) := by decide +kernel
theorem dX7_text_0 : decode cX7_text 0 = .ok (.aload_n 0, 1) := by decide +kernel
theorem dX7_text_1 : decode cX7_text 1 = .ok (.iconst 0, 1) := by decide +kernel
theorem dX7_text_2 : decode cX7_text 2 = .ok (.putfield 54, 3) := by decide +kernel
theorem dX7_text_5 : decode cX7_text 5 = .ok (.aload_n 0, 1) := by decide +kernel
theorem dX7_text_6 : decode cX7_text 6 = .ok (.iconst 0, 1) := by decide +kernel
theorem dX7_text_7 : decode cX7_text 7 = .ok (.putfield 66, 3) := by decide +kernel
theorem dX7_text_10 : decode cX7_text 10 = .ok (.aload_n 0, 1) := by decide +kernel
theorem dX7_text_11 : decode cX7_text 11 = .ok (.iconst 0, 1) := by decide +kernel
theorem dX7_text_12 : decode cX7_text 12 = .ok (.putfield 101, 3) := by decide +kernel
theorem dX7_text_15 : decode cX7_text 15 = .ok (.aload_n 0, 1) := by decide +kernel
theorem dX7_text_16 : decode cX7_text 16 = .ok (.iconst 0, 1) := by decide +kernel
theorem dX7_text_17 : decode cX7_text 17 = .ok (.putfield 98, 3) := by decide +kernel
theorem dX7_text_20 : decode cX7_text 20 = .ok (.aload_n 0, 1) := by decide +kernel
theorem dX7_text_21 : decode cX7_text 21 = .ok (.iconst 0, 1) := by decide +kernel
theorem dX7_text_22 : decode cX7_text 22 = .ok (.putfield 124, 3) := by decide +kernel
theorem dX7_text_25 : decode cX7_text 25 = .ok (.aload_n 0, 1) := by decide +kernel
theorem dX7_text_26 : decode cX7_text 26 = .ok (.iconst 0, 1) := by decide +kernel
theorem dX7_text_27 : decode cX7_text 27 = .ok (.putfield 106, 3) := by decide +kernel
theorem dX7_text_30 : decode cX7_text 30 = .ok (.aload_n 0, 1) := by decide +kernel
theorem dX7_text_31 : decode cX7_text 31 = .ok (.iconst (-1), 1) := by decide +kernel
theorem dX7_text_32 : decode cX7_text 32 = .ok (.putfield 95, 3) := by decide +kernel
theorem dX7_text_35 : decode cX7_text 35 = .ok (.iconst 0, 1) := by decide +kernel
theorem dX7_text_36 : decode cX7_text 36 = .ok (.istore_n 1, 1) := by decide +kernel
theorem dX7_text_37 : decode cX7_text 37 = .ok (.iconst 0, 1) := by decide +kernel
theorem dX7_text_38 : decode cX7_text 38 = .ok (.istore_n 2, 1) := by decide +kernel
theorem dX7_text_39 : decode cX7_text 39 = .ok (.iload_n 2, 1) := by decide +kernel
theorem dX7_text_40 : decode cX7_text 40 = .ok (.bipush 71, 2) := by decide +kernel
theorem dX7_text_42 : decode cX7_text 42 = .ok (.if_icmp .ge 16, 3) := by decide +kernel
theorem dX7_text_45 : decode cX7_text 45 = .ok (.aload_n 0, 1) := by decide +kernel
theorem dX7_text_46 : decode cX7_text 46 = .ok (.getfield 13, 3) := by decide +kernel
theorem dX7_text_49 : decode cX7_text 49 = .ok (.iload_n 2, 1) := by decide +kernel
theorem dX7_text_50 : decode cX7_text 50 = .ok (.iconst 0, 1) := by decide +kernel
theorem dX7_text_51 : decode cX7_text 51 = .ok (.iastore, 1) := by decide +kernel
theorem dX7_text_52 : decode cX7_text 52 = .ok (.iinc 2 1, 3) := by decide +kernel
theorem dX7_text_55 : decode cX7_text 55 = .ok (.goto (-16), 3) := by decide +kernel
theorem dX7_text_58 : decode cX7_text 58 = .ok (.aload_n 0, 1) := by decide +kernel
theorem dX7_text_59 : decode cX7_text 59 = .ok (.invokevirtual 88, 3) := by decide +kernel
theorem dX7_text_62 : decode cX7_text 62 = .ok (.aload_n 0, 1) := by decide +kernel
theorem dX7_text_63 : decode cX7_text 63 = .ok (.getfield 54, 3) := by decide +kernel
theorem dX7_text_66 : decode cX7_text 66 = .ok (.ifCond .ne 20, 3) := by decide +kernel
theorem dX7_text_69 : decode cX7_text 69 = .ok (.aload_n 0, 1) := by decide +kernel
theorem dX7_text_70 : decode cX7_text 70 = .ok (.getfield 63, 3) := by decide +kernel
theorem dX7_text_73 : decode cX7_text 73 = .ok (.ifCond .eq 13, 3) := by decide +kernel
theorem dX7_text_76 : decode cX7_text 76 = .ok (.aload_n 0, 1) := by decide +kernel
theorem dX7_text_77 : decode cX7_text 77 = .ok (.invokevirtual 130, 3) := by decide +kernel
theorem dX7_text_80 : decode cX7_text 80 = .ok (.iinc 1 1, 3) := by decide +kernel
theorem dX7_text_83 : decode cX7_text 83 = .ok (.goto (-21), 3) := by decide +kernel
theorem dX7_text_86 : decode cX7_text 86 = .ok (.aload_n 0, 1) := by decide +kernel
theorem dX7_text_87 : decode cX7_text 87 = .ok (.getfield 54, 3) := by decide +kernel
theorem dX7_text_90 : decode cX7_text 90 = .ok (.ifCond .ne 20, 3) := by decide +kernel
theorem dX7_text_93 : decode cX7_text 93 = .ok (.aload_n 0, 1) := by decide +kernel
theorem dX7_text_94 : decode cX7_text 94 = .ok (.getfield 95, 3) := by decide +kernel
theorem dX7_text_97 : decode cX7_text 97 = .ok (.aload_n 0, 1) := by decide +kernel
theorem dX7_text_98 : decode cX7_text 98 = .ok (.getfield 101, 3) := by decide +kernel
theorem dX7_text_101 : decode cX7_text 101 = .ok (.if_icmp .lt 9, 3) := by decide +kernel
theorem dX7_text_104 : decode cX7_text 104 = .ok (.aload_n 0, 1) := by decide +kernel
theorem dX7_text_105 : decode cX7_text 105 = .ok (.bipush 6, 2) := by decide +kernel
theorem dX7_text_107 : decode cX7_text 107 = .ok (.invokevirtual 84, 3) := by decide +kernel
theorem dX7_text_110 : decode cX7_text 110 = .ok (.aload_n 0, 1) := by decide +kernel
theorem dX7_text_111 : decode cX7_text 111 = .ok (.iconst 0, 1) := by decide +kernel
theorem dX7_text_112 : decode cX7_text 112 = .ok (.putfield 50, 3) := by decide +kernel
theorem dX7_text_115 : decode cX7_text 115 = .ok (.aload_n 0, 1) := by decide +kernel
theorem dX7_text_116 : decode cX7_text 116 = .ok (.aload_n 0, 1) := by decide +kernel
theorem dX7_text_117 : decode cX7_text 117 = .ok (.getfield 54, 3) := by decide +kernel
theorem dX7_text_120 : decode cX7_text 120 = .ok (.putfield 133, 3) := by decide +kernel
theorem dX7_text_123 : decode cX7_text 123 = .ok (.aload_n 0, 1) := by decide +kernel
theorem dX7_text_124 : decode cX7_text 124 = .ok (.getfield 54, 3) := by decide +kernel
theorem dX7_text_127 : decode cX7_text 127 = .ok (.ifCond .le 11, 3) := by decide +kernel
theorem dX7_text_130 : decode cX7_text 130 = .ok (.bipush (-10), 2) := by decide +kernel
theorem dX7_text_132 : decode cX7_text 132 = .ok (.aload_n 0, 1) := by decide +kernel
theorem dX7_text_133 : decode cX7_text 133 = .ok (.getfield 60, 3) := by decide +kernel
theorem dX7_text_136 : decode cX7_text 136 = .ok (.isub, 1) := by decide +kernel
theorem dX7_text_137 : decode cX7_text 137 = .ok (.ireturn, 1) := by decide +kernel
theorem dX7_text_138 : decode cX7_text 138 = .ok (.iconst 0, 1) := by decide +kernel
theorem dX7_text_139 : decode cX7_text 139 = .ok (.istore_n 2, 1) := by decide +kernel
theorem dX7_text_140 : decode cX7_text 140 = .ok (.iload_n 2, 1) := by decide +kernel
theorem dX7_text_141 : decode cX7_text 141 = .ok (.bipush 71, 2) := by decide +kernel
theorem dX7_text_143 : decode cX7_text 143 = .ok (.if_icmp .ge 21, 3) := by decide +kernel
theorem dX7_text_146 : decode cX7_text 146 = .ok (.aload_n 0, 1) := by decide +kernel
theorem dX7_text_147 : decode cX7_text 147 = .ok (.getfield 7, 3) := by decide +kernel
theorem dX7_text_150 : decode cX7_text 150 = .ok (.iload_n 2, 1) := by decide +kernel
theorem dX7_text_151 : decode cX7_text 151 = .ok (.aload_n 0, 1) := by decide +kernel
theorem dX7_text_152 : decode cX7_text 152 = .ok (.getfield 13, 3) := by decide +kernel
theorem dX7_text_155 : decode cX7_text 155 = .ok (.iload_n 2, 1) := by decide +kernel
theorem dX7_text_156 : decode cX7_text 156 = .ok (.iaload, 1) := by decide +kernel
theorem dX7_text_157 : decode cX7_text 157 = .ok (.iastore, 1) := by decide +kernel
theorem dX7_text_158 : decode cX7_text 158 = .ok (.iinc 2 1, 3) := by decide +kernel
theorem dX7_text_161 : decode cX7_text 161 = .ok (.goto (-21), 3) := by decide +kernel
theorem dX7_text_164 : decode cX7_text 164 = .ok (.aload_n 0, 1) := by decide +kernel
theorem dX7_text_165 : decode cX7_text 165 = .ok (.aload_n 0, 1) := by decide +kernel
theorem dX7_text_166 : decode cX7_text 166 = .ok (.getfield 101, 3) := by decide +kernel
theorem dX7_text_169 : decode cX7_text 169 = .ok (.putfield 136, 3) := by decide +kernel
theorem dX7_text_172 : decode cX7_text 172 = .ok (.aload_n 0, 1) := by decide +kernel
theorem dX7_text_173 : decode cX7_text 173 = .ok (.aload_n 0, 1) := by decide +kernel
theorem dX7_text_174 : decode cX7_text 174 = .ok (.getfield 98, 3) := by decide +kernel
theorem dX7_text_177 : decode cX7_text 177 = .ok (.putfield 139, 3) := by decide +kernel
theorem dX7_text_180 : decode cX7_text 180 = .ok (.aload_n 0, 1) := by decide +kernel
theorem dX7_text_181 : decode cX7_text 181 = .ok (.iconst 0, 1) := by decide +kernel
theorem dX7_text_182 : decode cX7_text 182 = .ok (.putfield 142, 3) := by decide +kernel
theorem dX7_text_185 : decode cX7_text 185 = .ok (.aload_n 0, 1) := by decide +kernel
theorem dX7_text_186 : decode cX7_text 186 = .ok (.getfield 31, 3) := by decide +kernel
theorem dX7_text_189 : decode cX7_text 189 = .ok (.iconst 0, 1) := by decide +kernel
theorem dX7_text_190 : decode cX7_text 190 = .ok (.iconst 0, 1) := by decide +kernel
theorem dX7_text_191 : decode cX7_text 191 = .ok (.bastore, 1) := by decide +kernel
theorem dX7_text_192 : decode cX7_text 192 = .ok (.aload_n 0, 1) := by decide +kernel
theorem dX7_text_193 : decode cX7_text 193 = .ok (.getfield 31, 3) := by decide +kernel
theorem dX7_text_196 : decode cX7_text 196 = .ok (.iconst 1, 1) := by decide +kernel
theorem dX7_text_197 : decode cX7_text 197 = .ok (.iconst 0, 1) := by decide +kernel
theorem dX7_text_198 : decode cX7_text 198 = .ok (.bastore, 1) := by decide +kernel
theorem dX7_text_199 : decode cX7_text 199 = .ok (.iload_n 1, 1) := by decide +kernel
theorem dX7_text_200 : decode cX7_text 200 = .ok (.ireturn, 1) := by decide +kernel
theorem dX7_fault_0 : decode cX7_fault 0 = .ok (.aload_n 0, 1) := by decide +kernel
theorem dX7_fault_1 : decode cX7_fault 1 = .ok (.getfield 133, 3) := by decide +kernel
theorem dX7_fault_4 : decode cX7_fault 4 = .ok (.ireturn, 1) := by decide +kernel
theorem dX7_isHouse_0 : decode cX7_isHouse 0 = .ok (.iload_n 1, 1) := by decide +kernel
theorem dX7_isHouse_1 : decode cX7_isHouse 1 = .ok (.i2l, 1) := by decide +kernel
theorem dX7_isHouse_2 : decode cX7_isHouse 2 = .ok (.lconst 0, 1) := by decide +kernel
theorem dX7_isHouse_3 : decode cX7_isHouse 3 = .ok (.aload_n 0, 1) := by decide +kernel
theorem dX7_isHouse_4 : decode cX7_isHouse 4 = .ok (.getfield 136, 3) := by decide +kernel
theorem dX7_isHouse_7 : decode cX7_isHouse 7 = .ok (.iconst 1, 1) := by decide +kernel
theorem dX7_isHouse_8 : decode cX7_isHouse 8 = .ok (.isub, 1) := by decide +kernel
theorem dX7_isHouse_9 : decode cX7_isHouse 9 = .ok (.i2l, 1) := by decide +kernel
theorem dX7_isHouse_10 : decode cX7_isHouse 10 = .ok (.invokestatic 46, 3) := by decide +kernel
theorem dX7_isHouse_13 : decode cX7_isHouse 13 = .ok (.ireturn, 1) := by decide +kernel
theorem dX7_isThing_0 : decode cX7_isThing 0 = .ok (.iload_n 1, 1) := by decide +kernel
theorem dX7_isThing_1 : decode cX7_isThing 1 = .ok (.i2l, 1) := by decide +kernel
theorem dX7_isThing_2 : decode cX7_isThing 2 = .ok (.lconst 0, 1) := by decide +kernel
theorem dX7_isThing_3 : decode cX7_isThing 3 = .ok (.aload_n 0, 1) := by decide +kernel
theorem dX7_isThing_4 : decode cX7_isThing 4 = .ok (.getfield 139, 3) := by decide +kernel
theorem dX7_isThing_7 : decode cX7_isThing 7 = .ok (.iconst 1, 1) := by decide +kernel
theorem dX7_isThing_8 : decode cX7_isThing 8 = .ok (.isub, 1) := by decide +kernel
theorem dX7_isThing_9 : decode cX7_isThing 9 = .ok (.i2l, 1) := by decide +kernel
theorem dX7_isThing_10 : decode cX7_isThing 10 = .ok (.invokestatic 46, 3) := by decide +kernel
theorem dX7_isThing_13 : decode cX7_isThing 13 = .ok (.ireturn, 1) := by decide +kernel
theorem dX7_fillsOn_0 : decode cX7_fillsOn 0 = .ok (.aload_n 0, 1) := by decide +kernel
theorem dX7_fillsOn_1 : decode cX7_fillsOn 1 = .ok (.getfield 7, 3) := by decide +kernel
theorem dX7_fillsOn_4 : decode cX7_fillsOn 4 = .ok (.iload_n 1, 1) := by decide +kernel
theorem dX7_fillsOn_5 : decode cX7_fillsOn 5 = .ok (.bipush 20, 2) := by decide +kernel
theorem dX7_fillsOn_7 : decode cX7_fillsOn 7 = .ok (.iadd, 1) := by decide +kernel
theorem dX7_fillsOn_8 : decode cX7_fillsOn 8 = .ok (.iload_n 2, 1) := by decide +kernel
theorem dX7_fillsOn_9 : decode cX7_fillsOn 9 = .ok (.iadd, 1) := by decide +kernel
theorem dX7_fillsOn_10 : decode cX7_fillsOn 10 = .ok (.iaload, 1) := by decide +kernel
theorem dX7_fillsOn_11 : decode cX7_fillsOn 11 = .ok (.istore_n 3, 1) := by decide +kernel
theorem dX7_fillsOn_12 : decode cX7_fillsOn 12 = .ok (.aload_n 0, 1) := by decide +kernel
theorem dX7_fillsOn_13 : decode cX7_fillsOn 13 = .ok (.getfield 7, 3) := by decide +kernel
theorem dX7_fillsOn_16 : decode cX7_fillsOn 16 = .ok (.iload_n 1, 1) := by decide +kernel
theorem dX7_fillsOn_17 : decode cX7_fillsOn 17 = .ok (.bipush 36, 2) := by decide +kernel
theorem dX7_fillsOn_19 : decode cX7_fillsOn 19 = .ok (.iadd, 1) := by decide +kernel
theorem dX7_fillsOn_20 : decode cX7_fillsOn 20 = .ok (.iload_n 2, 1) := by decide +kernel
theorem dX7_fillsOn_21 : decode cX7_fillsOn 21 = .ok (.iadd, 1) := by decide +kernel
theorem dX7_fillsOn_22 : decode cX7_fillsOn 22 = .ok (.iaload, 1) := by decide +kernel
theorem dX7_fillsOn_23 : decode cX7_fillsOn 23 = .ok (.istore 4, 2) := by decide +kernel
theorem dX7_fillsOn_25 : decode cX7_fillsOn 25 = .ok (.iload 4, 2) := by decide +kernel
theorem dX7_fillsOn_27 : decode cX7_fillsOn 27 = .ok (.iconst 1, 1) := by decide +kernel
theorem dX7_fillsOn_28 : decode cX7_fillsOn 28 = .ok (.iadd, 1) := by decide +kernel
theorem dX7_fillsOn_29 : decode cX7_fillsOn 29 = .ok (.iconst 2, 1) := by decide +kernel
theorem dX7_fillsOn_30 : decode cX7_fillsOn 30 = .ok (.idiv, 1) := by decide +kernel
theorem dX7_fillsOn_31 : decode cX7_fillsOn 31 = .ok (.istore 5, 2) := by decide +kernel
theorem dX7_fillsOn_33 : decode cX7_fillsOn 33 = .ok (.iload_n 3, 1) := by decide +kernel
theorem dX7_fillsOn_34 : decode cX7_fillsOn 34 = .ok (.ifCond .ne 8, 3) := by decide +kernel
theorem dX7_fillsOn_37 : decode cX7_fillsOn 37 = .ok (.iload 4, 2) := by decide +kernel
theorem dX7_fillsOn_39 : decode cX7_fillsOn 39 = .ok (.goto 29, 3) := by decide +kernel
theorem dX7_fillsOn_42 : decode cX7_fillsOn 42 = .ok (.iload_n 3, 1) := by decide +kernel
theorem dX7_fillsOn_43 : decode cX7_fillsOn 43 = .ok (.iconst 1, 1) := by decide +kernel
theorem dX7_fillsOn_44 : decode cX7_fillsOn 44 = .ok (.if_icmp .ne 10, 3) := by decide +kernel
theorem dX7_fillsOn_47 : decode cX7_fillsOn 47 = .ok (.iconst 2, 1) := by decide +kernel
theorem dX7_fillsOn_48 : decode cX7_fillsOn 48 = .ok (.iload 4, 2) := by decide +kernel
theorem dX7_fillsOn_50 : decode cX7_fillsOn 50 = .ok (.imul, 1) := by decide +kernel
theorem dX7_fillsOn_51 : decode cX7_fillsOn 51 = .ok (.goto 17, 3) := by decide +kernel
theorem dX7_fillsOn_54 : decode cX7_fillsOn 54 = .ok (.iload_n 3, 1) := by decide +kernel
theorem dX7_fillsOn_55 : decode cX7_fillsOn 55 = .ok (.iconst 2, 1) := by decide +kernel
theorem dX7_fillsOn_56 : decode cX7_fillsOn 56 = .ok (.if_icmp .ne 8, 3) := by decide +kernel
theorem dX7_fillsOn_59 : decode cX7_fillsOn 59 = .ok (.iload 5, 2) := by decide +kernel
theorem dX7_fillsOn_61 : decode cX7_fillsOn 61 = .ok (.goto 7, 3) := by decide +kernel
theorem dX7_fillsOn_64 : decode cX7_fillsOn 64 = .ok (.iload 5, 2) := by decide +kernel
theorem dX7_fillsOn_66 : decode cX7_fillsOn 66 = .ok (.iconst 1, 1) := by decide +kernel
theorem dX7_fillsOn_67 : decode cX7_fillsOn 67 = .ok (.iadd, 1) := by decide +kernel
theorem dX7_fillsOn_68 : decode cX7_fillsOn 68 = .ok (.ireturn, 1) := by decide +kernel
theorem dX7_costsOn_0 : decode cX7_costsOn 0 = .ok (.aload_n 0, 1) := by decide +kernel
theorem dX7_costsOn_1 : decode cX7_costsOn 1 = .ok (.getfield 7, 3) := by decide +kernel
theorem dX7_costsOn_4 : decode cX7_costsOn 4 = .ok (.iload_n 1, 1) := by decide +kernel
theorem dX7_costsOn_5 : decode cX7_costsOn 5 = .ok (.bipush 20, 2) := by decide +kernel
theorem dX7_costsOn_7 : decode cX7_costsOn 7 = .ok (.iadd, 1) := by decide +kernel
theorem dX7_costsOn_8 : decode cX7_costsOn 8 = .ok (.iload_n 2, 1) := by decide +kernel
theorem dX7_costsOn_9 : decode cX7_costsOn 9 = .ok (.iadd, 1) := by decide +kernel
theorem dX7_costsOn_10 : decode cX7_costsOn 10 = .ok (.iaload, 1) := by decide +kernel
theorem dX7_costsOn_11 : decode cX7_costsOn 11 = .ok (.istore_n 3, 1) := by decide +kernel
theorem dX7_costsOn_12 : decode cX7_costsOn 12 = .ok (.aload_n 0, 1) := by decide +kernel
theorem dX7_costsOn_13 : decode cX7_costsOn 13 = .ok (.getfield 7, 3) := by decide +kernel
theorem dX7_costsOn_16 : decode cX7_costsOn 16 = .ok (.iload_n 1, 1) := by decide +kernel
theorem dX7_costsOn_17 : decode cX7_costsOn 17 = .ok (.bipush 44, 2) := by decide +kernel
theorem dX7_costsOn_19 : decode cX7_costsOn 19 = .ok (.iadd, 1) := by decide +kernel
theorem dX7_costsOn_20 : decode cX7_costsOn 20 = .ok (.iload_n 2, 1) := by decide +kernel
theorem dX7_costsOn_21 : decode cX7_costsOn 21 = .ok (.iadd, 1) := by decide +kernel
theorem dX7_costsOn_22 : decode cX7_costsOn 22 = .ok (.iaload, 1) := by decide +kernel
theorem dX7_costsOn_23 : decode cX7_costsOn 23 = .ok (.istore 4, 2) := by decide +kernel
theorem dX7_costsOn_25 : decode cX7_costsOn 25 = .ok (.iload_n 3, 1) := by decide +kernel
theorem dX7_costsOn_26 : decode cX7_costsOn 26 = .ok (.iconst 2, 1) := by decide +kernel
theorem dX7_costsOn_27 : decode cX7_costsOn 27 = .ok (.if_icmp .ge 8, 3) := by decide +kernel
theorem dX7_costsOn_30 : decode cX7_costsOn 30 = .ok (.iload 4, 2) := by decide +kernel
theorem dX7_costsOn_32 : decode cX7_costsOn 32 = .ok (.goto 21, 3) := by decide +kernel
theorem dX7_costsOn_35 : decode cX7_costsOn 35 = .ok (.iload_n 3, 1) := by decide +kernel
theorem dX7_costsOn_36 : decode cX7_costsOn 36 = .ok (.iconst 2, 1) := by decide +kernel
theorem dX7_costsOn_37 : decode cX7_costsOn 37 = .ok (.if_icmp .ne 10, 3) := by decide +kernel
theorem dX7_costsOn_40 : decode cX7_costsOn 40 = .ok (.iconst 3, 1) := by decide +kernel
theorem dX7_costsOn_41 : decode cX7_costsOn 41 = .ok (.iload 4, 2) := by decide +kernel
theorem dX7_costsOn_43 : decode cX7_costsOn 43 = .ok (.imul, 1) := by decide +kernel
theorem dX7_costsOn_44 : decode cX7_costsOn 44 = .ok (.goto 9, 3) := by decide +kernel
theorem dX7_costsOn_47 : decode cX7_costsOn 47 = .ok (.iconst 3, 1) := by decide +kernel
theorem dX7_costsOn_48 : decode cX7_costsOn 48 = .ok (.iload 4, 2) := by decide +kernel
theorem dX7_costsOn_50 : decode cX7_costsOn 50 = .ok (.imul, 1) := by decide +kernel
theorem dX7_costsOn_51 : decode cX7_costsOn 51 = .ok (.iconst 1, 1) := by decide +kernel
theorem dX7_costsOn_52 : decode cX7_costsOn 52 = .ok (.iadd, 1) := by decide +kernel
theorem dX7_costsOn_53 : decode cX7_costsOn 53 = .ok (.ireturn, 1) := by decide +kernel
theorem dX7_filledOn_0 : decode cX7_filledOn 0 = .ok (.iconst 0, 1) := by decide +kernel
theorem dX7_filledOn_1 : decode cX7_filledOn 1 = .ok (.istore_n 3, 1) := by decide +kernel
theorem dX7_filledOn_2 : decode cX7_filledOn 2 = .ok (.iconst 0, 1) := by decide +kernel
theorem dX7_filledOn_3 : decode cX7_filledOn 3 = .ok (.istore 4, 2) := by decide +kernel
theorem dX7_filledOn_5 : decode cX7_filledOn 5 = .ok (.iload 4, 2) := by decide +kernel
theorem dX7_filledOn_7 : decode cX7_filledOn 7 = .ok (.aload_n 0, 1) := by decide +kernel
theorem dX7_filledOn_8 : decode cX7_filledOn 8 = .ok (.getfield 139, 3) := by decide +kernel
theorem dX7_filledOn_11 : decode cX7_filledOn 11 = .ok (.if_icmp .ge 55, 3) := by decide +kernel
theorem dX7_filledOn_14 : decode cX7_filledOn 14 = .ok (.iload_n 3, 1) := by decide +kernel
theorem dX7_filledOn_15 : decode cX7_filledOn 15 = .ok (.aload_n 0, 1) := by decide +kernel
theorem dX7_filledOn_16 : decode cX7_filledOn 16 = .ok (.getfield 7, 3) := by decide +kernel
theorem dX7_filledOn_19 : decode cX7_filledOn 19 = .ok (.iload_n 1, 1) := by decide +kernel
theorem dX7_filledOn_20 : decode cX7_filledOn 20 = .ok (.bipush 28, 2) := by decide +kernel
theorem dX7_filledOn_22 : decode cX7_filledOn 22 = .ok (.iadd, 1) := by decide +kernel
theorem dX7_filledOn_23 : decode cX7_filledOn 23 = .ok (.iload 4, 2) := by decide +kernel
theorem dX7_filledOn_25 : decode cX7_filledOn 25 = .ok (.iadd, 1) := by decide +kernel
theorem dX7_filledOn_26 : decode cX7_filledOn 26 = .ok (.iaload, 1) := by decide +kernel
theorem dX7_filledOn_27 : decode cX7_filledOn 27 = .ok (.iload_n 2, 1) := by decide +kernel
theorem dX7_filledOn_28 : decode cX7_filledOn 28 = .ok (.if_icmp .ne 29, 3) := by decide +kernel
theorem dX7_filledOn_31 : decode cX7_filledOn 31 = .ok (.aload_n 0, 1) := by decide +kernel
theorem dX7_filledOn_32 : decode cX7_filledOn 32 = .ok (.getfield 7, 3) := by decide +kernel
theorem dX7_filledOn_35 : decode cX7_filledOn 35 = .ok (.iload_n 1, 1) := by decide +kernel
theorem dX7_filledOn_36 : decode cX7_filledOn 36 = .ok (.bipush 52, 2) := by decide +kernel
theorem dX7_filledOn_38 : decode cX7_filledOn 38 = .ok (.iadd, 1) := by decide +kernel
theorem dX7_filledOn_39 : decode cX7_filledOn 39 = .ok (.iload 4, 2) := by decide +kernel
theorem dX7_filledOn_41 : decode cX7_filledOn 41 = .ok (.iadd, 1) := by decide +kernel
theorem dX7_filledOn_42 : decode cX7_filledOn 42 = .ok (.iaload, 1) := by decide +kernel
theorem dX7_filledOn_43 : decode cX7_filledOn 43 = .ok (.iconst 1, 1) := by decide +kernel
theorem dX7_filledOn_44 : decode cX7_filledOn 44 = .ok (.if_icmp .ne 13, 3) := by decide +kernel
theorem dX7_filledOn_47 : decode cX7_filledOn 47 = .ok (.aload_n 0, 1) := by decide +kernel
theorem dX7_filledOn_48 : decode cX7_filledOn 48 = .ok (.iload_n 1, 1) := by decide +kernel
theorem dX7_filledOn_49 : decode cX7_filledOn 49 = .ok (.iload 4, 2) := by decide +kernel
theorem dX7_filledOn_51 : decode cX7_filledOn 51 = .ok (.invokevirtual 145, 3) := by decide +kernel
theorem dX7_filledOn_54 : decode cX7_filledOn 54 = .ok (.goto 4, 3) := by decide +kernel
theorem dX7_filledOn_57 : decode cX7_filledOn 57 = .ok (.iconst 0, 1) := by decide +kernel
theorem dX7_filledOn_58 : decode cX7_filledOn 58 = .ok (.iadd, 1) := by decide +kernel
theorem dX7_filledOn_59 : decode cX7_filledOn 59 = .ok (.istore_n 3, 1) := by decide +kernel
theorem dX7_filledOn_60 : decode cX7_filledOn 60 = .ok (.iinc 4 1, 3) := by decide +kernel
theorem dX7_filledOn_63 : decode cX7_filledOn 63 = .ok (.goto (-58), 3) := by decide +kernel
theorem dX7_filledOn_66 : decode cX7_filledOn 66 = .ok (.iload_n 3, 1) := by decide +kernel
theorem dX7_filledOn_67 : decode cX7_filledOn 67 = .ok (.ireturn, 1) := by decide +kernel
theorem dX7_losesOn_0 : decode cX7_losesOn 0 = .ok (.aload_n 0, 1) := by decide +kernel
theorem dX7_losesOn_1 : decode cX7_losesOn 1 = .ok (.getfield 7, 3) := by decide +kernel
theorem dX7_losesOn_4 : decode cX7_losesOn 4 = .ok (.iload_n 1, 1) := by decide +kernel
theorem dX7_losesOn_5 : decode cX7_losesOn 5 = .ok (.bipush 70, 2) := by decide +kernel
theorem dX7_losesOn_7 : decode cX7_losesOn 7 = .ok (.iadd, 1) := by decide +kernel
theorem dX7_losesOn_8 : decode cX7_losesOn 8 = .ok (.iaload, 1) := by decide +kernel
theorem dX7_losesOn_9 : decode cX7_losesOn 9 = .ok (.aload_n 0, 1) := by decide +kernel
theorem dX7_losesOn_10 : decode cX7_losesOn 10 = .ok (.iload_n 1, 1) := by decide +kernel
theorem dX7_losesOn_11 : decode cX7_losesOn 11 = .ok (.iload_n 2, 1) := by decide +kernel
theorem dX7_losesOn_12 : decode cX7_losesOn 12 = .ok (.invokevirtual 148, 3) := by decide +kernel
theorem dX7_losesOn_15 : decode cX7_losesOn 15 = .ok (.iadd, 1) := by decide +kernel
theorem dX7_losesOn_16 : decode cX7_losesOn 16 = .ok (.istore_n 3, 1) := by decide +kernel
theorem dX7_losesOn_17 : decode cX7_losesOn 17 = .ok (.aload_n 0, 1) := by decide +kernel
theorem dX7_losesOn_18 : decode cX7_losesOn 18 = .ok (.getfield 7, 3) := by decide +kernel
theorem dX7_losesOn_21 : decode cX7_losesOn 21 = .ok (.iload_n 1, 1) := by decide +kernel
theorem dX7_losesOn_22 : decode cX7_losesOn 22 = .ok (.bipush 52, 2) := by decide +kernel
theorem dX7_losesOn_24 : decode cX7_losesOn 24 = .ok (.iadd, 1) := by decide +kernel
theorem dX7_losesOn_25 : decode cX7_losesOn 25 = .ok (.iload_n 2, 1) := by decide +kernel
theorem dX7_losesOn_26 : decode cX7_losesOn 26 = .ok (.iadd, 1) := by decide +kernel
theorem dX7_losesOn_27 : decode cX7_losesOn 27 = .ok (.iconst 2, 1) := by decide +kernel
theorem dX7_losesOn_28 : decode cX7_losesOn 28 = .ok (.iastore, 1) := by decide +kernel
theorem dX7_losesOn_29 : decode cX7_losesOn 29 = .ok (.aload_n 0, 1) := by decide +kernel
theorem dX7_losesOn_30 : decode cX7_losesOn 30 = .ok (.getfield 7, 3) := by decide +kernel
theorem dX7_losesOn_33 : decode cX7_losesOn 33 = .ok (.iload_n 1, 1) := by decide +kernel
theorem dX7_losesOn_34 : decode cX7_losesOn 34 = .ok (.bipush 70, 2) := by decide +kernel
theorem dX7_losesOn_36 : decode cX7_losesOn 36 = .ok (.iadd, 1) := by decide +kernel
theorem dX7_losesOn_37 : decode cX7_losesOn 37 = .ok (.iload_n 3, 1) := by decide +kernel
theorem dX7_losesOn_38 : decode cX7_losesOn 38 = .ok (.sipush 999, 3) := by decide +kernel
theorem dX7_losesOn_41 : decode cX7_losesOn 41 = .ok (.if_icmp .le 9, 3) := by decide +kernel
theorem dX7_losesOn_44 : decode cX7_losesOn 44 = .ok (.sipush 999, 3) := by decide +kernel
theorem dX7_losesOn_47 : decode cX7_losesOn 47 = .ok (.goto 4, 3) := by decide +kernel
theorem dX7_losesOn_50 : decode cX7_losesOn 50 = .ok (.iload_n 3, 1) := by decide +kernel
theorem dX7_losesOn_51 : decode cX7_losesOn 51 = .ok (.iastore, 1) := by decide +kernel
theorem dX7_losesOn_52 : decode cX7_losesOn 52 = .ok (.return_, 1) := by decide +kernel
theorem dX7_floatsOn_0 : decode cX7_floatsOn 0 = .ok (.aload_n 0, 1) := by decide +kernel
theorem dX7_floatsOn_1 : decode cX7_floatsOn 1 = .ok (.getfield 7, 3) := by decide +kernel
theorem dX7_floatsOn_4 : decode cX7_floatsOn 4 = .ok (.iload_n 1, 1) := by decide +kernel
theorem dX7_floatsOn_5 : decode cX7_floatsOn 5 = .ok (.iconst 4, 1) := by decide +kernel
theorem dX7_floatsOn_6 : decode cX7_floatsOn 6 = .ok (.iadd, 1) := by decide +kernel
theorem dX7_floatsOn_7 : decode cX7_floatsOn 7 = .ok (.iload_n 2, 1) := by decide +kernel
theorem dX7_floatsOn_8 : decode cX7_floatsOn 8 = .ok (.iadd, 1) := by decide +kernel
theorem dX7_floatsOn_9 : decode cX7_floatsOn 9 = .ok (.iaload, 1) := by decide +kernel
theorem dX7_floatsOn_10 : decode cX7_floatsOn 10 = .ok (.aload_n 0, 1) := by decide +kernel
theorem dX7_floatsOn_11 : decode cX7_floatsOn 11 = .ok (.getfield 7, 3) := by decide +kernel
theorem dX7_floatsOn_14 : decode cX7_floatsOn 14 = .ok (.iload_n 1, 1) := by decide +kernel
theorem dX7_floatsOn_15 : decode cX7_floatsOn 15 = .ok (.bipush 8, 2) := by decide +kernel
theorem dX7_floatsOn_17 : decode cX7_floatsOn 17 = .ok (.iadd, 1) := by decide +kernel
theorem dX7_floatsOn_18 : decode cX7_floatsOn 18 = .ok (.iload_n 2, 1) := by decide +kernel
theorem dX7_floatsOn_19 : decode cX7_floatsOn 19 = .ok (.iadd, 1) := by decide +kernel
theorem dX7_floatsOn_20 : decode cX7_floatsOn 20 = .ok (.iaload, 1) := by decide +kernel
theorem dX7_floatsOn_21 : decode cX7_floatsOn 21 = .ok (.isub, 1) := by decide +kernel
theorem dX7_floatsOn_22 : decode cX7_floatsOn 22 = .ok (.istore_n 3, 1) := by decide +kernel
theorem dX7_floatsOn_23 : decode cX7_floatsOn 23 = .ok (.aload_n 0, 1) := by decide +kernel
theorem dX7_floatsOn_24 : decode cX7_floatsOn 24 = .ok (.getfield 7, 3) := by decide +kernel
theorem dX7_floatsOn_27 : decode cX7_floatsOn 27 = .ok (.iload_n 1, 1) := by decide +kernel
theorem dX7_floatsOn_28 : decode cX7_floatsOn 28 = .ok (.iconst 4, 1) := by decide +kernel
theorem dX7_floatsOn_29 : decode cX7_floatsOn 29 = .ok (.iadd, 1) := by decide +kernel
theorem dX7_floatsOn_30 : decode cX7_floatsOn 30 = .ok (.iload_n 2, 1) := by decide +kernel
theorem dX7_floatsOn_31 : decode cX7_floatsOn 31 = .ok (.iadd, 1) := by decide +kernel
theorem dX7_floatsOn_32 : decode cX7_floatsOn 32 = .ok (.iload_n 3, 1) := by decide +kernel
theorem dX7_floatsOn_33 : decode cX7_floatsOn 33 = .ok (.ifCond .ge 7, 3) := by decide +kernel
theorem dX7_floatsOn_36 : decode cX7_floatsOn 36 = .ok (.iconst 0, 1) := by decide +kernel
theorem dX7_floatsOn_37 : decode cX7_floatsOn 37 = .ok (.goto 4, 3) := by decide +kernel
theorem dX7_floatsOn_40 : decode cX7_floatsOn 40 = .ok (.iload_n 3, 1) := by decide +kernel
theorem dX7_floatsOn_41 : decode cX7_floatsOn 41 = .ok (.iastore, 1) := by decide +kernel
theorem dX7_floatsOn_42 : decode cX7_floatsOn 42 = .ok (.aload_n 0, 1) := by decide +kernel
theorem dX7_floatsOn_43 : decode cX7_floatsOn 43 = .ok (.getfield 139, 3) := by decide +kernel
theorem dX7_floatsOn_46 : decode cX7_floatsOn 46 = .ok (.iconst 1, 1) := by decide +kernel
theorem dX7_floatsOn_47 : decode cX7_floatsOn 47 = .ok (.isub, 1) := by decide +kernel
theorem dX7_floatsOn_48 : decode cX7_floatsOn 48 = .ok (.istore 4, 2) := by decide +kernel
theorem dX7_floatsOn_50 : decode cX7_floatsOn 50 = .ok (.iload 4, 2) := by decide +kernel
theorem dX7_floatsOn_52 : decode cX7_floatsOn 52 = .ok (.ifCond .lt 67, 3) := by decide +kernel
theorem dX7_floatsOn_55 : decode cX7_floatsOn 55 = .ok (.aload_n 0, 1) := by decide +kernel
theorem dX7_floatsOn_56 : decode cX7_floatsOn 56 = .ok (.getfield 7, 3) := by decide +kernel
theorem dX7_floatsOn_59 : decode cX7_floatsOn 59 = .ok (.iload_n 1, 1) := by decide +kernel
theorem dX7_floatsOn_60 : decode cX7_floatsOn 60 = .ok (.bipush 28, 2) := by decide +kernel
theorem dX7_floatsOn_62 : decode cX7_floatsOn 62 = .ok (.iadd, 1) := by decide +kernel
theorem dX7_floatsOn_63 : decode cX7_floatsOn 63 = .ok (.iload 4, 2) := by decide +kernel
theorem dX7_floatsOn_65 : decode cX7_floatsOn 65 = .ok (.iadd, 1) := by decide +kernel
theorem dX7_floatsOn_66 : decode cX7_floatsOn 66 = .ok (.iaload, 1) := by decide +kernel
theorem dX7_floatsOn_67 : decode cX7_floatsOn 67 = .ok (.iload_n 2, 1) := by decide +kernel
theorem dX7_floatsOn_68 : decode cX7_floatsOn 68 = .ok (.if_icmp .ne 45, 3) := by decide +kernel
theorem dX7_floatsOn_71 : decode cX7_floatsOn 71 = .ok (.aload_n 0, 1) := by decide +kernel
theorem dX7_floatsOn_72 : decode cX7_floatsOn 72 = .ok (.getfield 7, 3) := by decide +kernel
theorem dX7_floatsOn_75 : decode cX7_floatsOn 75 = .ok (.iload_n 1, 1) := by decide +kernel
theorem dX7_floatsOn_76 : decode cX7_floatsOn 76 = .ok (.bipush 52, 2) := by decide +kernel
theorem dX7_floatsOn_78 : decode cX7_floatsOn 78 = .ok (.iadd, 1) := by decide +kernel
theorem dX7_floatsOn_79 : decode cX7_floatsOn 79 = .ok (.iload 4, 2) := by decide +kernel
theorem dX7_floatsOn_81 : decode cX7_floatsOn 81 = .ok (.iadd, 1) := by decide +kernel
theorem dX7_floatsOn_82 : decode cX7_floatsOn 82 = .ok (.iaload, 1) := by decide +kernel
theorem dX7_floatsOn_83 : decode cX7_floatsOn 83 = .ok (.iconst 1, 1) := by decide +kernel
theorem dX7_floatsOn_84 : decode cX7_floatsOn 84 = .ok (.if_icmp .ne 29, 3) := by decide +kernel
theorem dX7_floatsOn_87 : decode cX7_floatsOn 87 = .ok (.aload_n 0, 1) := by decide +kernel
theorem dX7_floatsOn_88 : decode cX7_floatsOn 88 = .ok (.iload_n 1, 1) := by decide +kernel
theorem dX7_floatsOn_89 : decode cX7_floatsOn 89 = .ok (.iload_n 2, 1) := by decide +kernel
theorem dX7_floatsOn_90 : decode cX7_floatsOn 90 = .ok (.invokevirtual 151, 3) := by decide +kernel
theorem dX7_floatsOn_93 : decode cX7_floatsOn 93 = .ok (.aload_n 0, 1) := by decide +kernel
theorem dX7_floatsOn_94 : decode cX7_floatsOn 94 = .ok (.getfield 7, 3) := by decide +kernel
theorem dX7_floatsOn_97 : decode cX7_floatsOn 97 = .ok (.iload_n 1, 1) := by decide +kernel
theorem dX7_floatsOn_98 : decode cX7_floatsOn 98 = .ok (.iconst 4, 1) := by decide +kernel
theorem dX7_floatsOn_99 : decode cX7_floatsOn 99 = .ok (.iadd, 1) := by decide +kernel
theorem dX7_floatsOn_100 : decode cX7_floatsOn 100 = .ok (.iload_n 2, 1) := by decide +kernel
theorem dX7_floatsOn_101 : decode cX7_floatsOn 101 = .ok (.iadd, 1) := by decide +kernel
theorem dX7_floatsOn_102 : decode cX7_floatsOn 102 = .ok (.iaload, 1) := by decide +kernel
theorem dX7_floatsOn_103 : decode cX7_floatsOn 103 = .ok (.if_icmp .le 10, 3) := by decide +kernel
theorem dX7_floatsOn_106 : decode cX7_floatsOn 106 = .ok (.aload_n 0, 1) := by decide +kernel
theorem dX7_floatsOn_107 : decode cX7_floatsOn 107 = .ok (.iload_n 1, 1) := by decide +kernel
theorem dX7_floatsOn_108 : decode cX7_floatsOn 108 = .ok (.iload 4, 2) := by decide +kernel
theorem dX7_floatsOn_110 : decode cX7_floatsOn 110 = .ok (.invokevirtual 154, 3) := by decide +kernel
theorem dX7_floatsOn_113 : decode cX7_floatsOn 113 = .ok (.iinc 4 (-1), 3) := by decide +kernel
theorem dX7_floatsOn_116 : decode cX7_floatsOn 116 = .ok (.goto (-66), 3) := by decide +kernel
theorem dX7_floatsOn_119 : decode cX7_floatsOn 119 = .ok (.aload_n 0, 1) := by decide +kernel
theorem dX7_floatsOn_120 : decode cX7_floatsOn 120 = .ok (.getfield 7, 3) := by decide +kernel
theorem dX7_floatsOn_123 : decode cX7_floatsOn 123 = .ok (.iload_n 1, 1) := by decide +kernel
theorem dX7_floatsOn_124 : decode cX7_floatsOn 124 = .ok (.bipush 12, 2) := by decide +kernel
theorem dX7_floatsOn_126 : decode cX7_floatsOn 126 = .ok (.iadd, 1) := by decide +kernel
theorem dX7_floatsOn_127 : decode cX7_floatsOn 127 = .ok (.iload_n 2, 1) := by decide +kernel
theorem dX7_floatsOn_128 : decode cX7_floatsOn 128 = .ok (.iadd, 1) := by decide +kernel
theorem dX7_floatsOn_129 : decode cX7_floatsOn 129 = .ok (.iaload, 1) := by decide +kernel
theorem dX7_floatsOn_130 : decode cX7_floatsOn 130 = .ok (.aload_n 0, 1) := by decide +kernel
theorem dX7_floatsOn_131 : decode cX7_floatsOn 131 = .ok (.getfield 7, 3) := by decide +kernel
theorem dX7_floatsOn_134 : decode cX7_floatsOn 134 = .ok (.iload_n 1, 1) := by decide +kernel
theorem dX7_floatsOn_135 : decode cX7_floatsOn 135 = .ok (.bipush 67, 2) := by decide +kernel
theorem dX7_floatsOn_137 : decode cX7_floatsOn 137 = .ok (.iadd, 1) := by decide +kernel
theorem dX7_floatsOn_138 : decode cX7_floatsOn 138 = .ok (.iaload, 1) := by decide +kernel
theorem dX7_floatsOn_139 : decode cX7_floatsOn 139 = .ok (.iadd, 1) := by decide +kernel
theorem dX7_floatsOn_140 : decode cX7_floatsOn 140 = .ok (.istore 4, 2) := by decide +kernel
theorem dX7_floatsOn_142 : decode cX7_floatsOn 142 = .ok (.aload_n 0, 1) := by decide +kernel
theorem dX7_floatsOn_143 : decode cX7_floatsOn 143 = .ok (.getfield 7, 3) := by decide +kernel
theorem dX7_floatsOn_146 : decode cX7_floatsOn 146 = .ok (.iload_n 1, 1) := by decide +kernel
theorem dX7_floatsOn_147 : decode cX7_floatsOn 147 = .ok (.bipush 12, 2) := by decide +kernel
theorem dX7_floatsOn_149 : decode cX7_floatsOn 149 = .ok (.iadd, 1) := by decide +kernel
theorem dX7_floatsOn_150 : decode cX7_floatsOn 150 = .ok (.iload_n 2, 1) := by decide +kernel
theorem dX7_floatsOn_151 : decode cX7_floatsOn 151 = .ok (.iadd, 1) := by decide +kernel
theorem dX7_floatsOn_152 : decode cX7_floatsOn 152 = .ok (.iload 4, 2) := by decide +kernel
theorem dX7_floatsOn_154 : decode cX7_floatsOn 154 = .ok (.ifCond .ge 7, 3) := by decide +kernel
theorem dX7_floatsOn_157 : decode cX7_floatsOn 157 = .ok (.iconst 0, 1) := by decide +kernel
theorem dX7_floatsOn_158 : decode cX7_floatsOn 158 = .ok (.goto 17, 3) := by decide +kernel
theorem dX7_floatsOn_161 : decode cX7_floatsOn 161 = .ok (.iload 4, 2) := by decide +kernel
theorem dX7_floatsOn_163 : decode cX7_floatsOn 163 = .ok (.bipush 99, 2) := by decide +kernel
theorem dX7_floatsOn_165 : decode cX7_floatsOn 165 = .ok (.if_icmp .le 8, 3) := by decide +kernel
theorem dX7_floatsOn_168 : decode cX7_floatsOn 168 = .ok (.bipush 99, 2) := by decide +kernel
theorem dX7_floatsOn_170 : decode cX7_floatsOn 170 = .ok (.goto 5, 3) := by decide +kernel
theorem dX7_floatsOn_173 : decode cX7_floatsOn 173 = .ok (.iload 4, 2) := by decide +kernel
theorem dX7_floatsOn_175 : decode cX7_floatsOn 175 = .ok (.iastore, 1) := by decide +kernel
theorem dX7_floatsOn_176 : decode cX7_floatsOn 176 = .ok (.return_, 1) := by decide +kernel
theorem dX7_dayOn_0 : decode cX7_dayOn 0 = .ok (.aload_n 0, 1) := by decide +kernel
theorem dX7_dayOn_1 : decode cX7_dayOn 1 = .ok (.getfield 7, 3) := by decide +kernel
theorem dX7_dayOn_4 : decode cX7_dayOn 4 = .ok (.iload_n 1, 1) := by decide +kernel
theorem dX7_dayOn_5 : decode cX7_dayOn 5 = .ok (.bipush 68, 2) := by decide +kernel
theorem dX7_dayOn_7 : decode cX7_dayOn 7 = .ok (.iadd, 1) := by decide +kernel
theorem dX7_dayOn_8 : decode cX7_dayOn 8 = .ok (.iaload, 1) := by decide +kernel
theorem dX7_dayOn_9 : decode cX7_dayOn 9 = .ok (.iload_n 2, 1) := by decide +kernel
theorem dX7_dayOn_10 : decode cX7_dayOn 10 = .ok (.iadd, 1) := by decide +kernel
theorem dX7_dayOn_11 : decode cX7_dayOn 11 = .ok (.istore_n 3, 1) := by decide +kernel
theorem dX7_dayOn_12 : decode cX7_dayOn 12 = .ok (.iload_n 3, 1) := by decide +kernel
theorem dX7_dayOn_13 : decode cX7_dayOn 13 = .ok (.ifCond .ge 7, 3) := by decide +kernel
theorem dX7_dayOn_16 : decode cX7_dayOn 16 = .ok (.iconst 0, 1) := by decide +kernel
theorem dX7_dayOn_17 : decode cX7_dayOn 17 = .ok (.goto 15, 3) := by decide +kernel
theorem dX7_dayOn_20 : decode cX7_dayOn 20 = .ok (.iload_n 3, 1) := by decide +kernel
theorem dX7_dayOn_21 : decode cX7_dayOn 21 = .ok (.bipush 20, 2) := by decide +kernel
theorem dX7_dayOn_23 : decode cX7_dayOn 23 = .ok (.if_icmp .le 8, 3) := by decide +kernel
theorem dX7_dayOn_26 : decode cX7_dayOn 26 = .ok (.bipush 20, 2) := by decide +kernel
theorem dX7_dayOn_28 : decode cX7_dayOn 28 = .ok (.goto 4, 3) := by decide +kernel
theorem dX7_dayOn_31 : decode cX7_dayOn 31 = .ok (.iload_n 3, 1) := by decide +kernel
theorem dX7_dayOn_32 : decode cX7_dayOn 32 = .ok (.istore_n 3, 1) := by decide +kernel
theorem dX7_dayOn_33 : decode cX7_dayOn 33 = .ok (.aload_n 0, 1) := by decide +kernel
theorem dX7_dayOn_34 : decode cX7_dayOn 34 = .ok (.getfield 7, 3) := by decide +kernel
theorem dX7_dayOn_37 : decode cX7_dayOn 37 = .ok (.iload_n 1, 1) := by decide +kernel
theorem dX7_dayOn_38 : decode cX7_dayOn 38 = .ok (.bipush 68, 2) := by decide +kernel
theorem dX7_dayOn_40 : decode cX7_dayOn 40 = .ok (.iadd, 1) := by decide +kernel
theorem dX7_dayOn_41 : decode cX7_dayOn 41 = .ok (.iload_n 3, 1) := by decide +kernel
theorem dX7_dayOn_42 : decode cX7_dayOn 42 = .ok (.iastore, 1) := by decide +kernel
theorem dX7_dayOn_43 : decode cX7_dayOn 43 = .ok (.iconst 0, 1) := by decide +kernel
theorem dX7_dayOn_44 : decode cX7_dayOn 44 = .ok (.istore 4, 2) := by decide +kernel
theorem dX7_dayOn_46 : decode cX7_dayOn 46 = .ok (.iload 4, 2) := by decide +kernel
theorem dX7_dayOn_48 : decode cX7_dayOn 48 = .ok (.aload_n 0, 1) := by decide +kernel
theorem dX7_dayOn_49 : decode cX7_dayOn 49 = .ok (.getfield 136, 3) := by decide +kernel
theorem dX7_dayOn_52 : decode cX7_dayOn 52 = .ok (.if_icmp .ge 140, 3) := by decide +kernel
theorem dX7_dayOn_55 : decode cX7_dayOn 55 = .ok (.iload_n 3, 1) := by decide +kernel
theorem dX7_dayOn_56 : decode cX7_dayOn 56 = .ok (.aload_n 0, 1) := by decide +kernel
theorem dX7_dayOn_57 : decode cX7_dayOn 57 = .ok (.getfield 7, 3) := by decide +kernel
theorem dX7_dayOn_60 : decode cX7_dayOn 60 = .ok (.iload_n 1, 1) := by decide +kernel
theorem dX7_dayOn_61 : decode cX7_dayOn 61 = .ok (.iload 4, 2) := by decide +kernel
theorem dX7_dayOn_63 : decode cX7_dayOn 63 = .ok (.iadd, 1) := by decide +kernel
theorem dX7_dayOn_64 : decode cX7_dayOn 64 = .ok (.iaload, 1) := by decide +kernel
theorem dX7_dayOn_65 : decode cX7_dayOn 65 = .ok (.if_icmp .le 7, 3) := by decide +kernel
theorem dX7_dayOn_68 : decode cX7_dayOn 68 = .ok (.iconst 1, 1) := by decide +kernel
theorem dX7_dayOn_69 : decode cX7_dayOn 69 = .ok (.goto 4, 3) := by decide +kernel
theorem dX7_dayOn_72 : decode cX7_dayOn 72 = .ok (.iconst 0, 1) := by decide +kernel
theorem dX7_dayOn_73 : decode cX7_dayOn 73 = .ok (.istore 5, 2) := by decide +kernel
theorem dX7_dayOn_75 : decode cX7_dayOn 75 = .ok (.iconst 0, 1) := by decide +kernel
theorem dX7_dayOn_76 : decode cX7_dayOn 76 = .ok (.istore 6, 2) := by decide +kernel
theorem dX7_dayOn_78 : decode cX7_dayOn 78 = .ok (.iload 6, 2) := by decide +kernel
theorem dX7_dayOn_80 : decode cX7_dayOn 80 = .ok (.aload_n 0, 1) := by decide +kernel
theorem dX7_dayOn_81 : decode cX7_dayOn 81 = .ok (.getfield 139, 3) := by decide +kernel
theorem dX7_dayOn_84 : decode cX7_dayOn 84 = .ok (.if_icmp .ge 68, 3) := by decide +kernel
theorem dX7_dayOn_87 : decode cX7_dayOn 87 = .ok (.iload 5, 2) := by decide +kernel
theorem dX7_dayOn_89 : decode cX7_dayOn 89 = .ok (.ifCond .eq 63, 3) := by decide +kernel
theorem dX7_dayOn_92 : decode cX7_dayOn 92 = .ok (.aload_n 0, 1) := by decide +kernel
theorem dX7_dayOn_93 : decode cX7_dayOn 93 = .ok (.getfield 7, 3) := by decide +kernel
theorem dX7_dayOn_96 : decode cX7_dayOn 96 = .ok (.iload_n 1, 1) := by decide +kernel
theorem dX7_dayOn_97 : decode cX7_dayOn 97 = .ok (.bipush 16, 2) := by decide +kernel
theorem dX7_dayOn_99 : decode cX7_dayOn 99 = .ok (.iadd, 1) := by decide +kernel
theorem dX7_dayOn_100 : decode cX7_dayOn 100 = .ok (.iload 4, 2) := by decide +kernel
theorem dX7_dayOn_102 : decode cX7_dayOn 102 = .ok (.iadd, 1) := by decide +kernel
theorem dX7_dayOn_103 : decode cX7_dayOn 103 = .ok (.iaload, 1) := by decide +kernel
theorem dX7_dayOn_104 : decode cX7_dayOn 104 = .ok (.ifCond .ne 48, 3) := by decide +kernel
theorem dX7_dayOn_107 : decode cX7_dayOn 107 = .ok (.aload_n 0, 1) := by decide +kernel
theorem dX7_dayOn_108 : decode cX7_dayOn 108 = .ok (.getfield 7, 3) := by decide +kernel
theorem dX7_dayOn_111 : decode cX7_dayOn 111 = .ok (.iload_n 1, 1) := by decide +kernel
theorem dX7_dayOn_112 : decode cX7_dayOn 112 = .ok (.bipush 28, 2) := by decide +kernel
theorem dX7_dayOn_114 : decode cX7_dayOn 114 = .ok (.iadd, 1) := by decide +kernel
theorem dX7_dayOn_115 : decode cX7_dayOn 115 = .ok (.iload 6, 2) := by decide +kernel
theorem dX7_dayOn_117 : decode cX7_dayOn 117 = .ok (.iadd, 1) := by decide +kernel
theorem dX7_dayOn_118 : decode cX7_dayOn 118 = .ok (.iaload, 1) := by decide +kernel
theorem dX7_dayOn_119 : decode cX7_dayOn 119 = .ok (.iload 4, 2) := by decide +kernel
theorem dX7_dayOn_121 : decode cX7_dayOn 121 = .ok (.if_icmp .ne 25, 3) := by decide +kernel
theorem dX7_dayOn_124 : decode cX7_dayOn 124 = .ok (.aload_n 0, 1) := by decide +kernel
theorem dX7_dayOn_125 : decode cX7_dayOn 125 = .ok (.getfield 7, 3) := by decide +kernel
theorem dX7_dayOn_128 : decode cX7_dayOn 128 = .ok (.iload_n 1, 1) := by decide +kernel
theorem dX7_dayOn_129 : decode cX7_dayOn 129 = .ok (.bipush 52, 2) := by decide +kernel
theorem dX7_dayOn_131 : decode cX7_dayOn 131 = .ok (.iadd, 1) := by decide +kernel
theorem dX7_dayOn_132 : decode cX7_dayOn 132 = .ok (.iload 6, 2) := by decide +kernel
theorem dX7_dayOn_134 : decode cX7_dayOn 134 = .ok (.iadd, 1) := by decide +kernel
theorem dX7_dayOn_135 : decode cX7_dayOn 135 = .ok (.iaload, 1) := by decide +kernel
theorem dX7_dayOn_136 : decode cX7_dayOn 136 = .ok (.ifCond .ne 10, 3) := by decide +kernel
theorem dX7_dayOn_139 : decode cX7_dayOn 139 = .ok (.aload_n 0, 1) := by decide +kernel
theorem dX7_dayOn_140 : decode cX7_dayOn 140 = .ok (.iload_n 1, 1) := by decide +kernel
theorem dX7_dayOn_141 : decode cX7_dayOn 141 = .ok (.iload 6, 2) := by decide +kernel
theorem dX7_dayOn_143 : decode cX7_dayOn 143 = .ok (.invokevirtual 154, 3) := by decide +kernel
theorem dX7_dayOn_146 : decode cX7_dayOn 146 = .ok (.iinc 6 1, 3) := by decide +kernel
theorem dX7_dayOn_149 : decode cX7_dayOn 149 = .ok (.goto (-71), 3) := by decide +kernel
theorem dX7_dayOn_152 : decode cX7_dayOn 152 = .ok (.aload_n 0, 1) := by decide +kernel
theorem dX7_dayOn_153 : decode cX7_dayOn 153 = .ok (.getfield 7, 3) := by decide +kernel
theorem dX7_dayOn_156 : decode cX7_dayOn 156 = .ok (.iload_n 1, 1) := by decide +kernel
theorem dX7_dayOn_157 : decode cX7_dayOn 157 = .ok (.bipush 16, 2) := by decide +kernel
theorem dX7_dayOn_159 : decode cX7_dayOn 159 = .ok (.iadd, 1) := by decide +kernel
theorem dX7_dayOn_160 : decode cX7_dayOn 160 = .ok (.iload 4, 2) := by decide +kernel
theorem dX7_dayOn_162 : decode cX7_dayOn 162 = .ok (.iadd, 1) := by decide +kernel
theorem dX7_dayOn_163 : decode cX7_dayOn 163 = .ok (.iload 5, 2) := by decide +kernel
theorem dX7_dayOn_165 : decode cX7_dayOn 165 = .ok (.ifCond .eq 7, 3) := by decide +kernel
theorem dX7_dayOn_168 : decode cX7_dayOn 168 = .ok (.iconst 1, 1) := by decide +kernel
theorem dX7_dayOn_169 : decode cX7_dayOn 169 = .ok (.goto 4, 3) := by decide +kernel
theorem dX7_dayOn_172 : decode cX7_dayOn 172 = .ok (.iconst 0, 1) := by decide +kernel
theorem dX7_dayOn_173 : decode cX7_dayOn 173 = .ok (.iastore, 1) := by decide +kernel
theorem dX7_dayOn_174 : decode cX7_dayOn 174 = .ok (.iload 5, 2) := by decide +kernel
theorem dX7_dayOn_176 : decode cX7_dayOn 176 = .ok (.ifCond .eq 10, 3) := by decide +kernel
theorem dX7_dayOn_179 : decode cX7_dayOn 179 = .ok (.aload_n 0, 1) := by decide +kernel
theorem dX7_dayOn_180 : decode cX7_dayOn 180 = .ok (.iload_n 1, 1) := by decide +kernel
theorem dX7_dayOn_181 : decode cX7_dayOn 181 = .ok (.iload 4, 2) := by decide +kernel
theorem dX7_dayOn_183 : decode cX7_dayOn 183 = .ok (.invokevirtual 158, 3) := by decide +kernel
theorem dX7_dayOn_186 : decode cX7_dayOn 186 = .ok (.iinc 4 1, 3) := by decide +kernel
theorem dX7_dayOn_189 : decode cX7_dayOn 189 = .ok (.goto (-143), 3) := by decide +kernel
theorem dX7_dayOn_192 : decode cX7_dayOn 192 = .ok (.aload_n 0, 1) := by decide +kernel
theorem dX7_dayOn_193 : decode cX7_dayOn 193 = .ok (.getfield 7, 3) := by decide +kernel
theorem dX7_dayOn_196 : decode cX7_dayOn 196 = .ok (.iload_n 1, 1) := by decide +kernel
theorem dX7_dayOn_197 : decode cX7_dayOn 197 = .ok (.bipush 69, 2) := by decide +kernel
theorem dX7_dayOn_199 : decode cX7_dayOn 199 = .ok (.iadd, 1) := by decide +kernel
theorem dX7_dayOn_200 : decode cX7_dayOn 200 = .ok (.dup2, 1) := by decide +kernel
theorem dX7_dayOn_201 : decode cX7_dayOn 201 = .ok (.iaload, 1) := by decide +kernel
theorem dX7_dayOn_202 : decode cX7_dayOn 202 = .ok (.iconst 1, 1) := by decide +kernel
theorem dX7_dayOn_203 : decode cX7_dayOn 203 = .ok (.iadd, 1) := by decide +kernel
theorem dX7_dayOn_204 : decode cX7_dayOn 204 = .ok (.iastore, 1) := by decide +kernel
theorem dX7_dayOn_205 : decode cX7_dayOn 205 = .ok (.return_, 1) := by decide +kernel
theorem dX7_riseOn_0 : decode cX7_riseOn 0 = .ok (.aload_n 0, 1) := by decide +kernel
theorem dX7_riseOn_1 : decode cX7_riseOn 1 = .ok (.getfield 7, 3) := by decide +kernel
theorem dX7_riseOn_4 : decode cX7_riseOn 4 = .ok (.iload_n 1, 1) := by decide +kernel
theorem dX7_riseOn_5 : decode cX7_riseOn 5 = .ok (.bipush 60, 2) := by decide +kernel
theorem dX7_riseOn_7 : decode cX7_riseOn 7 = .ok (.iadd, 1) := by decide +kernel
theorem dX7_riseOn_8 : decode cX7_riseOn 8 = .ok (.aload_n 0, 1) := by decide +kernel
theorem dX7_riseOn_9 : decode cX7_riseOn 9 = .ok (.getfield 7, 3) := by decide +kernel
theorem dX7_riseOn_12 : decode cX7_riseOn 12 = .ok (.iload_n 1, 1) := by decide +kernel
theorem dX7_riseOn_13 : decode cX7_riseOn 13 = .ok (.bipush 69, 2) := by decide +kernel
theorem dX7_riseOn_15 : decode cX7_riseOn 15 = .ok (.iadd, 1) := by decide +kernel
theorem dX7_riseOn_16 : decode cX7_riseOn 16 = .ok (.iaload, 1) := by decide +kernel
theorem dX7_riseOn_17 : decode cX7_riseOn 17 = .ok (.bipush 7, 2) := by decide +kernel
theorem dX7_riseOn_19 : decode cX7_riseOn 19 = .ok (.irem, 1) := by decide +kernel
theorem dX7_riseOn_20 : decode cX7_riseOn 20 = .ok (.iadd, 1) := by decide +kernel
theorem dX7_riseOn_21 : decode cX7_riseOn 21 = .ok (.iaload, 1) := by decide +kernel
theorem dX7_riseOn_22 : decode cX7_riseOn 22 = .ok (.ireturn, 1) := by decide +kernel
theorem dX7_afloatOn_0 : decode cX7_afloatOn 0 = .ok (.iconst 0, 1) := by decide +kernel
theorem dX7_afloatOn_1 : decode cX7_afloatOn 1 = .ok (.istore_n 2, 1) := by decide +kernel
theorem dX7_afloatOn_2 : decode cX7_afloatOn 2 = .ok (.iconst 0, 1) := by decide +kernel
theorem dX7_afloatOn_3 : decode cX7_afloatOn 3 = .ok (.istore_n 3, 1) := by decide +kernel
theorem dX7_afloatOn_4 : decode cX7_afloatOn 4 = .ok (.iload_n 3, 1) := by decide +kernel
theorem dX7_afloatOn_5 : decode cX7_afloatOn 5 = .ok (.aload_n 0, 1) := by decide +kernel
theorem dX7_afloatOn_6 : decode cX7_afloatOn 6 = .ok (.getfield 136, 3) := by decide +kernel
theorem dX7_afloatOn_9 : decode cX7_afloatOn 9 = .ok (.if_icmp .ge 25, 3) := by decide +kernel
theorem dX7_afloatOn_12 : decode cX7_afloatOn 12 = .ok (.iload_n 2, 1) := by decide +kernel
theorem dX7_afloatOn_13 : decode cX7_afloatOn 13 = .ok (.aload_n 0, 1) := by decide +kernel
theorem dX7_afloatOn_14 : decode cX7_afloatOn 14 = .ok (.getfield 7, 3) := by decide +kernel
theorem dX7_afloatOn_17 : decode cX7_afloatOn 17 = .ok (.iload_n 1, 1) := by decide +kernel
theorem dX7_afloatOn_18 : decode cX7_afloatOn 18 = .ok (.bipush 16, 2) := by decide +kernel
theorem dX7_afloatOn_20 : decode cX7_afloatOn 20 = .ok (.iadd, 1) := by decide +kernel
theorem dX7_afloatOn_21 : decode cX7_afloatOn 21 = .ok (.iload_n 3, 1) := by decide +kernel
theorem dX7_afloatOn_22 : decode cX7_afloatOn 22 = .ok (.iadd, 1) := by decide +kernel
theorem dX7_afloatOn_23 : decode cX7_afloatOn 23 = .ok (.iaload, 1) := by decide +kernel
theorem dX7_afloatOn_24 : decode cX7_afloatOn 24 = .ok (.iload_n 3, 1) := by decide +kernel
theorem dX7_afloatOn_25 : decode cX7_afloatOn 25 = .ok (.ishl, 1) := by decide +kernel
theorem dX7_afloatOn_26 : decode cX7_afloatOn 26 = .ok (.ior, 1) := by decide +kernel
theorem dX7_afloatOn_27 : decode cX7_afloatOn 27 = .ok (.istore_n 2, 1) := by decide +kernel
theorem dX7_afloatOn_28 : decode cX7_afloatOn 28 = .ok (.iinc 3 1, 3) := by decide +kernel
theorem dX7_afloatOn_31 : decode cX7_afloatOn 31 = .ok (.goto (-27), 3) := by decide +kernel
theorem dX7_afloatOn_34 : decode cX7_afloatOn 34 = .ok (.iload_n 2, 1) := by decide +kernel
theorem dX7_afloatOn_35 : decode cX7_afloatOn 35 = .ok (.ireturn, 1) := by decide +kernel
theorem dX7_thoseOn_0 : decode cX7_thoseOn 0 = .ok (.iconst 0, 1) := by decide +kernel
theorem dX7_thoseOn_1 : decode cX7_thoseOn 1 = .ok (.istore_n 3, 1) := by decide +kernel
theorem dX7_thoseOn_2 : decode cX7_thoseOn 2 = .ok (.iconst 0, 1) := by decide +kernel
theorem dX7_thoseOn_3 : decode cX7_thoseOn 3 = .ok (.istore 4, 2) := by decide +kernel
theorem dX7_thoseOn_5 : decode cX7_thoseOn 5 = .ok (.iload 4, 2) := by decide +kernel
theorem dX7_thoseOn_7 : decode cX7_thoseOn 7 = .ok (.aload_n 0, 1) := by decide +kernel
theorem dX7_thoseOn_8 : decode cX7_thoseOn 8 = .ok (.getfield 139, 3) := by decide +kernel
theorem dX7_thoseOn_11 : decode cX7_thoseOn 11 = .ok (.if_icmp .ge 36, 3) := by decide +kernel
theorem dX7_thoseOn_14 : decode cX7_thoseOn 14 = .ok (.iload_n 3, 1) := by decide +kernel
theorem dX7_thoseOn_15 : decode cX7_thoseOn 15 = .ok (.aload_n 0, 1) := by decide +kernel
theorem dX7_thoseOn_16 : decode cX7_thoseOn 16 = .ok (.getfield 7, 3) := by decide +kernel
theorem dX7_thoseOn_19 : decode cX7_thoseOn 19 = .ok (.iload_n 1, 1) := by decide +kernel
theorem dX7_thoseOn_20 : decode cX7_thoseOn 20 = .ok (.bipush 52, 2) := by decide +kernel
theorem dX7_thoseOn_22 : decode cX7_thoseOn 22 = .ok (.iadd, 1) := by decide +kernel
theorem dX7_thoseOn_23 : decode cX7_thoseOn 23 = .ok (.iload 4, 2) := by decide +kernel
theorem dX7_thoseOn_25 : decode cX7_thoseOn 25 = .ok (.iadd, 1) := by decide +kernel
theorem dX7_thoseOn_26 : decode cX7_thoseOn 26 = .ok (.iaload, 1) := by decide +kernel
theorem dX7_thoseOn_27 : decode cX7_thoseOn 27 = .ok (.iload_n 2, 1) := by decide +kernel
theorem dX7_thoseOn_28 : decode cX7_thoseOn 28 = .ok (.if_icmp .ne 10, 3) := by decide +kernel
theorem dX7_thoseOn_31 : decode cX7_thoseOn 31 = .ok (.iconst 1, 1) := by decide +kernel
theorem dX7_thoseOn_32 : decode cX7_thoseOn 32 = .ok (.iload 4, 2) := by decide +kernel
theorem dX7_thoseOn_34 : decode cX7_thoseOn 34 = .ok (.ishl, 1) := by decide +kernel
theorem dX7_thoseOn_35 : decode cX7_thoseOn 35 = .ok (.goto 4, 3) := by decide +kernel
theorem dX7_thoseOn_38 : decode cX7_thoseOn 38 = .ok (.iconst 0, 1) := by decide +kernel
theorem dX7_thoseOn_39 : decode cX7_thoseOn 39 = .ok (.ior, 1) := by decide +kernel
theorem dX7_thoseOn_40 : decode cX7_thoseOn 40 = .ok (.istore_n 3, 1) := by decide +kernel
theorem dX7_thoseOn_41 : decode cX7_thoseOn 41 = .ok (.iinc 4 1, 3) := by decide +kernel
theorem dX7_thoseOn_44 : decode cX7_thoseOn 44 = .ok (.goto (-39), 3) := by decide +kernel
theorem dX7_thoseOn_47 : decode cX7_thoseOn 47 = .ok (.iload_n 3, 1) := by decide +kernel
theorem dX7_thoseOn_48 : decode cX7_thoseOn 48 = .ok (.ireturn, 1) := by decide +kernel
theorem dX7_bitsOf_0 : decode cX7_bitsOf 0 = .ok (.iconst 0, 1) := by decide +kernel
theorem dX7_bitsOf_1 : decode cX7_bitsOf 1 = .ok (.istore_n 1, 1) := by decide +kernel
theorem dX7_bitsOf_2 : decode cX7_bitsOf 2 = .ok (.iload_n 0, 1) := by decide +kernel
theorem dX7_bitsOf_3 : decode cX7_bitsOf 3 = .ok (.istore_n 2, 1) := by decide +kernel
theorem dX7_bitsOf_4 : decode cX7_bitsOf 4 = .ok (.iload_n 2, 1) := by decide +kernel
theorem dX7_bitsOf_5 : decode cX7_bitsOf 5 = .ok (.ifCond .le 16, 3) := by decide +kernel
theorem dX7_bitsOf_8 : decode cX7_bitsOf 8 = .ok (.iload_n 1, 1) := by decide +kernel
theorem dX7_bitsOf_9 : decode cX7_bitsOf 9 = .ok (.iload_n 2, 1) := by decide +kernel
theorem dX7_bitsOf_10 : decode cX7_bitsOf 10 = .ok (.iconst 1, 1) := by decide +kernel
theorem dX7_bitsOf_11 : decode cX7_bitsOf 11 = .ok (.iand, 1) := by decide +kernel
theorem dX7_bitsOf_12 : decode cX7_bitsOf 12 = .ok (.iadd, 1) := by decide +kernel
theorem dX7_bitsOf_13 : decode cX7_bitsOf 13 = .ok (.istore_n 1, 1) := by decide +kernel
theorem dX7_bitsOf_14 : decode cX7_bitsOf 14 = .ok (.iload_n 2, 1) := by decide +kernel
theorem dX7_bitsOf_15 : decode cX7_bitsOf 15 = .ok (.iconst 1, 1) := by decide +kernel
theorem dX7_bitsOf_16 : decode cX7_bitsOf 16 = .ok (.ishr, 1) := by decide +kernel
theorem dX7_bitsOf_17 : decode cX7_bitsOf 17 = .ok (.istore_n 2, 1) := by decide +kernel
theorem dX7_bitsOf_18 : decode cX7_bitsOf 18 = .ok (.goto (-14), 3) := by decide +kernel
theorem dX7_bitsOf_21 : decode cX7_bitsOf 21 = .ok (.iload_n 1, 1) := by decide +kernel
theorem dX7_bitsOf_22 : decode cX7_bitsOf 22 = .ok (.ireturn, 1) := by decide +kernel
theorem dX7_ofHouse_0 : decode cX7_ofHouse 0 = .ok (.iconst 0, 1) := by decide +kernel
theorem dX7_ofHouse_1 : decode cX7_ofHouse 1 = .ok (.istore_n 3, 1) := by decide +kernel
theorem dX7_ofHouse_2 : decode cX7_ofHouse 2 = .ok (.iconst 0, 1) := by decide +kernel
theorem dX7_ofHouse_3 : decode cX7_ofHouse 3 = .ok (.istore 4, 2) := by decide +kernel
theorem dX7_ofHouse_5 : decode cX7_ofHouse 5 = .ok (.iload 4, 2) := by decide +kernel
theorem dX7_ofHouse_7 : decode cX7_ofHouse 7 = .ok (.aload_n 0, 1) := by decide +kernel
theorem dX7_ofHouse_8 : decode cX7_ofHouse 8 = .ok (.getfield 139, 3) := by decide +kernel
theorem dX7_ofHouse_11 : decode cX7_ofHouse 11 = .ok (.if_icmp .ge 36, 3) := by decide +kernel
theorem dX7_ofHouse_14 : decode cX7_ofHouse 14 = .ok (.iload_n 3, 1) := by decide +kernel
theorem dX7_ofHouse_15 : decode cX7_ofHouse 15 = .ok (.aload_n 0, 1) := by decide +kernel
theorem dX7_ofHouse_16 : decode cX7_ofHouse 16 = .ok (.getfield 7, 3) := by decide +kernel
theorem dX7_ofHouse_19 : decode cX7_ofHouse 19 = .ok (.iload_n 1, 1) := by decide +kernel
theorem dX7_ofHouse_20 : decode cX7_ofHouse 20 = .ok (.bipush 28, 2) := by decide +kernel
theorem dX7_ofHouse_22 : decode cX7_ofHouse 22 = .ok (.iadd, 1) := by decide +kernel
theorem dX7_ofHouse_23 : decode cX7_ofHouse 23 = .ok (.iload 4, 2) := by decide +kernel
theorem dX7_ofHouse_25 : decode cX7_ofHouse 25 = .ok (.iadd, 1) := by decide +kernel
theorem dX7_ofHouse_26 : decode cX7_ofHouse 26 = .ok (.iaload, 1) := by decide +kernel
theorem dX7_ofHouse_27 : decode cX7_ofHouse 27 = .ok (.iload_n 2, 1) := by decide +kernel
theorem dX7_ofHouse_28 : decode cX7_ofHouse 28 = .ok (.if_icmp .ne 10, 3) := by decide +kernel
theorem dX7_ofHouse_31 : decode cX7_ofHouse 31 = .ok (.iconst 1, 1) := by decide +kernel
theorem dX7_ofHouse_32 : decode cX7_ofHouse 32 = .ok (.iload 4, 2) := by decide +kernel
theorem dX7_ofHouse_34 : decode cX7_ofHouse 34 = .ok (.ishl, 1) := by decide +kernel
theorem dX7_ofHouse_35 : decode cX7_ofHouse 35 = .ok (.goto 4, 3) := by decide +kernel
theorem dX7_ofHouse_38 : decode cX7_ofHouse 38 = .ok (.iconst 0, 1) := by decide +kernel
theorem dX7_ofHouse_39 : decode cX7_ofHouse 39 = .ok (.ior, 1) := by decide +kernel
theorem dX7_ofHouse_40 : decode cX7_ofHouse 40 = .ok (.istore_n 3, 1) := by decide +kernel
theorem dX7_ofHouse_41 : decode cX7_ofHouse 41 = .ok (.iinc 4 1, 3) := by decide +kernel
theorem dX7_ofHouse_44 : decode cX7_ofHouse 44 = .ok (.goto (-39), 3) := by decide +kernel
theorem dX7_ofHouse_47 : decode cX7_ofHouse 47 = .ok (.iload_n 3, 1) := by decide +kernel
theorem dX7_ofHouse_48 : decode cX7_ofHouse 48 = .ok (.ireturn, 1) := by decide +kernel
theorem dX7_rule_0 : decode cX7_rule 0 = .ok (.iload_n 1, 1) := by decide +kernel
theorem dX7_rule_1 : decode cX7_rule 1 = .ok (.tableswitch 115 0 8 #[51, 56, 61, 69, 77, 85, 95, 101, 108], 51) := by decide +kernel
theorem dX7_rule_52 : decode cX7_rule 52 = .ok (.aload_n 0, 1) := by decide +kernel
theorem dX7_rule_53 : decode cX7_rule 53 = .ok (.getfield 136, 3) := by decide +kernel
theorem dX7_rule_56 : decode cX7_rule 56 = .ok (.ireturn, 1) := by decide +kernel
theorem dX7_rule_57 : decode cX7_rule 57 = .ok (.aload_n 0, 1) := by decide +kernel
theorem dX7_rule_58 : decode cX7_rule 58 = .ok (.getfield 139, 3) := by decide +kernel
theorem dX7_rule_61 : decode cX7_rule 61 = .ok (.ireturn, 1) := by decide +kernel
theorem dX7_rule_62 : decode cX7_rule 62 = .ok (.aload_n 0, 1) := by decide +kernel
theorem dX7_rule_63 : decode cX7_rule 63 = .ok (.getfield 7, 3) := by decide +kernel
theorem dX7_rule_66 : decode cX7_rule 66 = .ok (.bipush 69, 2) := by decide +kernel
theorem dX7_rule_68 : decode cX7_rule 68 = .ok (.iaload, 1) := by decide +kernel
theorem dX7_rule_69 : decode cX7_rule 69 = .ok (.ireturn, 1) := by decide +kernel
theorem dX7_rule_70 : decode cX7_rule 70 = .ok (.aload_n 0, 1) := by decide +kernel
theorem dX7_rule_71 : decode cX7_rule 71 = .ok (.getfield 7, 3) := by decide +kernel
theorem dX7_rule_74 : decode cX7_rule 74 = .ok (.bipush 68, 2) := by decide +kernel
theorem dX7_rule_76 : decode cX7_rule 76 = .ok (.iaload, 1) := by decide +kernel
theorem dX7_rule_77 : decode cX7_rule 77 = .ok (.ireturn, 1) := by decide +kernel
theorem dX7_rule_78 : decode cX7_rule 78 = .ok (.aload_n 0, 1) := by decide +kernel
theorem dX7_rule_79 : decode cX7_rule 79 = .ok (.getfield 7, 3) := by decide +kernel
theorem dX7_rule_82 : decode cX7_rule 82 = .ok (.bipush 70, 2) := by decide +kernel
theorem dX7_rule_84 : decode cX7_rule 84 = .ok (.iaload, 1) := by decide +kernel
theorem dX7_rule_85 : decode cX7_rule 85 = .ok (.ireturn, 1) := by decide +kernel
theorem dX7_rule_86 : decode cX7_rule 86 = .ok (.aload_n 0, 1) := by decide +kernel
theorem dX7_rule_87 : decode cX7_rule 87 = .ok (.getfield 7, 3) := by decide +kernel
theorem dX7_rule_90 : decode cX7_rule 90 = .ok (.bipush 67, 2) := by decide +kernel
theorem dX7_rule_92 : decode cX7_rule 92 = .ok (.iaload, 1) := by decide +kernel
theorem dX7_rule_93 : decode cX7_rule 93 = .ok (.iconst 4, 1) := by decide +kernel
theorem dX7_rule_94 : decode cX7_rule 94 = .ok (.iadd, 1) := by decide +kernel
theorem dX7_rule_95 : decode cX7_rule 95 = .ok (.ireturn, 1) := by decide +kernel
theorem dX7_rule_96 : decode cX7_rule 96 = .ok (.aload_n 0, 1) := by decide +kernel
theorem dX7_rule_97 : decode cX7_rule 97 = .ok (.iconst 0, 1) := by decide +kernel
theorem dX7_rule_98 : decode cX7_rule 98 = .ok (.invokevirtual 161, 3) := by decide +kernel
theorem dX7_rule_101 : decode cX7_rule 101 = .ok (.ireturn, 1) := by decide +kernel
theorem dX7_rule_102 : decode cX7_rule 102 = .ok (.aload_n 0, 1) := by decide +kernel
theorem dX7_rule_103 : decode cX7_rule 103 = .ok (.iconst 0, 1) := by decide +kernel
theorem dX7_rule_104 : decode cX7_rule 104 = .ok (.iconst 1, 1) := by decide +kernel
theorem dX7_rule_105 : decode cX7_rule 105 = .ok (.invokevirtual 164, 3) := by decide +kernel
theorem dX7_rule_108 : decode cX7_rule 108 = .ok (.ireturn, 1) := by decide +kernel
theorem dX7_rule_109 : decode cX7_rule 109 = .ok (.aload_n 0, 1) := by decide +kernel
theorem dX7_rule_110 : decode cX7_rule 110 = .ok (.iconst 0, 1) := by decide +kernel
theorem dX7_rule_111 : decode cX7_rule 111 = .ok (.iconst 2, 1) := by decide +kernel
theorem dX7_rule_112 : decode cX7_rule 112 = .ok (.invokevirtual 164, 3) := by decide +kernel
theorem dX7_rule_115 : decode cX7_rule 115 = .ok (.ireturn, 1) := by decide +kernel
theorem dX7_rule_116 : decode cX7_rule 116 = .ok (.iconst (-1), 1) := by decide +kernel
theorem dX7_rule_117 : decode cX7_rule 117 = .ok (.ireturn, 1) := by decide +kernel
theorem dX7_house_0 : decode cX7_house 0 = .ok (.aload_n 0, 1) := by decide +kernel
theorem dX7_house_1 : decode cX7_house 1 = .ok (.iload_n 1, 1) := by decide +kernel
theorem dX7_house_2 : decode cX7_house 2 = .ok (.invokevirtual 167, 3) := by decide +kernel
theorem dX7_house_5 : decode cX7_house 5 = .ok (.ifCond .eq 15, 3) := by decide +kernel
theorem dX7_house_8 : decode cX7_house 8 = .ok (.iload_n 2, 1) := by decide +kernel
theorem dX7_house_9 : decode cX7_house 9 = .ok (.i2l, 1) := by decide +kernel
theorem dX7_house_10 : decode cX7_house 10 = .ok (.lconst 0, 1) := by decide +kernel
theorem dX7_house_11 : decode cX7_house 11 = .ok (.ldc2_w 171, 3) := by decide +kernel
theorem dX7_house_14 : decode cX7_house 14 = .ok (.invokestatic 46, 3) := by decide +kernel
theorem dX7_house_17 : decode cX7_house 17 = .ok (.ifCond .ne 5, 3) := by decide +kernel
theorem dX7_house_20 : decode cX7_house 20 = .ok (.iconst (-1), 1) := by decide +kernel
theorem dX7_house_21 : decode cX7_house 21 = .ok (.ireturn, 1) := by decide +kernel
theorem dX7_house_22 : decode cX7_house 22 = .ok (.iload_n 2, 1) := by decide +kernel
theorem dX7_house_23 : decode cX7_house 23 = .ok (.iconst 4, 1) := by decide +kernel
theorem dX7_house_24 : decode cX7_house 24 = .ok (.if_icmp .ge 16, 3) := by decide +kernel
theorem dX7_house_27 : decode cX7_house 27 = .ok (.aload_n 0, 1) := by decide +kernel
theorem dX7_house_28 : decode cX7_house 28 = .ok (.getfield 7, 3) := by decide +kernel
theorem dX7_house_31 : decode cX7_house 31 = .ok (.iconst 4, 1) := by decide +kernel
theorem dX7_house_32 : decode cX7_house 32 = .ok (.iload_n 2, 1) := by decide +kernel
theorem dX7_house_33 : decode cX7_house 33 = .ok (.imul, 1) := by decide +kernel
theorem dX7_house_34 : decode cX7_house 34 = .ok (.iload_n 1, 1) := by decide +kernel
theorem dX7_house_35 : decode cX7_house 35 = .ok (.iadd, 1) := by decide +kernel
theorem dX7_house_36 : decode cX7_house 36 = .ok (.iaload, 1) := by decide +kernel
theorem dX7_house_37 : decode cX7_house 37 = .ok (.goto 23, 3) := by decide +kernel
theorem dX7_house_40 : decode cX7_house 40 = .ok (.iload_n 2, 1) := by decide +kernel
theorem dX7_house_41 : decode cX7_house 41 = .ok (.iconst 4, 1) := by decide +kernel
theorem dX7_house_42 : decode cX7_house 42 = .ok (.if_icmp .ne 12, 3) := by decide +kernel
theorem dX7_house_45 : decode cX7_house 45 = .ok (.aload_n 0, 1) := by decide +kernel
theorem dX7_house_46 : decode cX7_house 46 = .ok (.iconst 0, 1) := by decide +kernel
theorem dX7_house_47 : decode cX7_house 47 = .ok (.iload_n 1, 1) := by decide +kernel
theorem dX7_house_48 : decode cX7_house 48 = .ok (.invokevirtual 151, 3) := by decide +kernel
theorem dX7_house_51 : decode cX7_house 51 = .ok (.goto 9, 3) := by decide +kernel
theorem dX7_house_54 : decode cX7_house 54 = .ok (.aload_n 0, 1) := by decide +kernel
theorem dX7_house_55 : decode cX7_house 55 = .ok (.iconst 0, 1) := by decide +kernel
theorem dX7_house_56 : decode cX7_house 56 = .ok (.iload_n 1, 1) := by decide +kernel
theorem dX7_house_57 : decode cX7_house 57 = .ok (.invokevirtual 173, 3) := by decide +kernel
theorem dX7_house_60 : decode cX7_house 60 = .ok (.ireturn, 1) := by decide +kernel
theorem dX7_thing_0 : decode cX7_thing 0 = .ok (.aload_n 0, 1) := by decide +kernel
theorem dX7_thing_1 : decode cX7_thing 1 = .ok (.iload_n 1, 1) := by decide +kernel
theorem dX7_thing_2 : decode cX7_thing 2 = .ok (.invokevirtual 176, 3) := by decide +kernel
theorem dX7_thing_5 : decode cX7_thing 5 = .ok (.ifCond .eq 15, 3) := by decide +kernel
theorem dX7_thing_8 : decode cX7_thing 8 = .ok (.iload_n 2, 1) := by decide +kernel
theorem dX7_thing_9 : decode cX7_thing 9 = .ok (.i2l, 1) := by decide +kernel
theorem dX7_thing_10 : decode cX7_thing 10 = .ok (.lconst 0, 1) := by decide +kernel
theorem dX7_thing_11 : decode cX7_thing 11 = .ok (.ldc2_w 104, 3) := by decide +kernel
theorem dX7_thing_14 : decode cX7_thing 14 = .ok (.invokestatic 46, 3) := by decide +kernel
theorem dX7_thing_17 : decode cX7_thing 17 = .ok (.ifCond .ne 5, 3) := by decide +kernel
theorem dX7_thing_20 : decode cX7_thing 20 = .ok (.iconst (-1), 1) := by decide +kernel
theorem dX7_thing_21 : decode cX7_thing 21 = .ok (.ireturn, 1) := by decide +kernel
theorem dX7_thing_22 : decode cX7_thing 22 = .ok (.iload_n 2, 1) := by decide +kernel
theorem dX7_thing_23 : decode cX7_thing 23 = .ok (.iconst 5, 1) := by decide +kernel
theorem dX7_thing_24 : decode cX7_thing 24 = .ok (.if_icmp .ge 20, 3) := by decide +kernel
theorem dX7_thing_27 : decode cX7_thing 27 = .ok (.aload_n 0, 1) := by decide +kernel
theorem dX7_thing_28 : decode cX7_thing 28 = .ok (.getfield 7, 3) := by decide +kernel
theorem dX7_thing_31 : decode cX7_thing 31 = .ok (.bipush 20, 2) := by decide +kernel
theorem dX7_thing_33 : decode cX7_thing 33 = .ok (.bipush 8, 2) := by decide +kernel
theorem dX7_thing_35 : decode cX7_thing 35 = .ok (.iload_n 2, 1) := by decide +kernel
theorem dX7_thing_36 : decode cX7_thing 36 = .ok (.imul, 1) := by decide +kernel
theorem dX7_thing_37 : decode cX7_thing 37 = .ok (.iadd, 1) := by decide +kernel
theorem dX7_thing_38 : decode cX7_thing 38 = .ok (.iload_n 1, 1) := by decide +kernel
theorem dX7_thing_39 : decode cX7_thing 39 = .ok (.iadd, 1) := by decide +kernel
theorem dX7_thing_40 : decode cX7_thing 40 = .ok (.iaload, 1) := by decide +kernel
theorem dX7_thing_41 : decode cX7_thing 41 = .ok (.goto 23, 3) := by decide +kernel
theorem dX7_thing_44 : decode cX7_thing 44 = .ok (.iload_n 2, 1) := by decide +kernel
theorem dX7_thing_45 : decode cX7_thing 45 = .ok (.iconst 5, 1) := by decide +kernel
theorem dX7_thing_46 : decode cX7_thing 46 = .ok (.if_icmp .ne 12, 3) := by decide +kernel
theorem dX7_thing_49 : decode cX7_thing 49 = .ok (.aload_n 0, 1) := by decide +kernel
theorem dX7_thing_50 : decode cX7_thing 50 = .ok (.iconst 0, 1) := by decide +kernel
theorem dX7_thing_51 : decode cX7_thing 51 = .ok (.iload_n 1, 1) := by decide +kernel
theorem dX7_thing_52 : decode cX7_thing 52 = .ok (.invokevirtual 145, 3) := by decide +kernel
theorem dX7_thing_55 : decode cX7_thing 55 = .ok (.goto 9, 3) := by decide +kernel
theorem dX7_thing_58 : decode cX7_thing 58 = .ok (.aload_n 0, 1) := by decide +kernel
theorem dX7_thing_59 : decode cX7_thing 59 = .ok (.iconst 0, 1) := by decide +kernel
theorem dX7_thing_60 : decode cX7_thing 60 = .ok (.iload_n 1, 1) := by decide +kernel
theorem dX7_thing_61 : decode cX7_thing 61 = .ok (.invokevirtual 148, 3) := by decide +kernel
theorem dX7_thing_64 : decode cX7_thing 64 = .ok (.ireturn, 1) := by decide +kernel
theorem dX7_rise_0 : decode cX7_rise 0 = .ok (.iload_n 1, 1) := by decide +kernel
theorem dX7_rise_1 : decode cX7_rise 1 = .ok (.i2l, 1) := by decide +kernel
theorem dX7_rise_2 : decode cX7_rise 2 = .ok (.lconst 0, 1) := by decide +kernel
theorem dX7_rise_3 : decode cX7_rise 3 = .ok (.ldc2_w 104, 3) := by decide +kernel
theorem dX7_rise_6 : decode cX7_rise 6 = .ok (.invokestatic 46, 3) := by decide +kernel
theorem dX7_rise_9 : decode cX7_rise 9 = .ok (.ifCond .eq 17, 3) := by decide +kernel
theorem dX7_rise_12 : decode cX7_rise 12 = .ok (.aload_n 0, 1) := by decide +kernel
theorem dX7_rise_13 : decode cX7_rise 13 = .ok (.getfield 7, 3) := by decide +kernel
theorem dX7_rise_16 : decode cX7_rise 16 = .ok (.bipush 60, 2) := by decide +kernel
theorem dX7_rise_18 : decode cX7_rise 18 = .ok (.iload_n 1, 1) := by decide +kernel
theorem dX7_rise_19 : decode cX7_rise 19 = .ok (.iadd, 1) := by decide +kernel
theorem dX7_rise_20 : decode cX7_rise 20 = .ok (.iaload, 1) := by decide +kernel
theorem dX7_rise_21 : decode cX7_rise 21 = .ok (.iconst 4, 1) := by decide +kernel
theorem dX7_rise_22 : decode cX7_rise 22 = .ok (.iadd, 1) := by decide +kernel
theorem dX7_rise_23 : decode cX7_rise 23 = .ok (.goto 4, 3) := by decide +kernel
theorem dX7_rise_26 : decode cX7_rise 26 = .ok (.iconst (-1), 1) := by decide +kernel
theorem dX7_rise_27 : decode cX7_rise 27 = .ok (.ireturn, 1) := by decide +kernel
theorem dX7_puts_0 : decode cX7_puts 0 = .ok (.iload_n 1, 1) := by decide +kernel
theorem dX7_puts_1 : decode cX7_puts 1 = .ok (.ifCond .ne 5, 3) := by decide +kernel
theorem dX7_puts_4 : decode cX7_puts 4 = .ok (.iconst (-1), 1) := by decide +kernel
theorem dX7_puts_5 : decode cX7_puts 5 = .ok (.ireturn, 1) := by decide +kernel
theorem dX7_puts_6 : decode cX7_puts 6 = .ok (.aload_n 0, 1) := by decide +kernel
theorem dX7_puts_7 : decode cX7_puts 7 = .ok (.getfield 7, 3) := by decide +kernel
theorem dX7_puts_10 : decode cX7_puts 10 = .ok (.iload_n 2, 1) := by decide +kernel
theorem dX7_puts_11 : decode cX7_puts 11 = .ok (.iaload, 1) := by decide +kernel
theorem dX7_puts_12 : decode cX7_puts 12 = .ok (.iload 4, 2) := by decide +kernel
theorem dX7_puts_14 : decode cX7_puts 14 = .ok (.iadd, 1) := by decide +kernel
theorem dX7_puts_15 : decode cX7_puts 15 = .ok (.istore 5, 2) := by decide +kernel
theorem dX7_puts_17 : decode cX7_puts 17 = .ok (.aload_n 0, 1) := by decide +kernel
theorem dX7_puts_18 : decode cX7_puts 18 = .ok (.getfield 7, 3) := by decide +kernel
theorem dX7_puts_21 : decode cX7_puts 21 = .ok (.iload_n 2, 1) := by decide +kernel
theorem dX7_puts_22 : decode cX7_puts 22 = .ok (.iload_n 3, 1) := by decide +kernel
theorem dX7_puts_23 : decode cX7_puts 23 = .ok (.iload 4, 2) := by decide +kernel
theorem dX7_puts_25 : decode cX7_puts 25 = .ok (.isub, 1) := by decide +kernel
theorem dX7_puts_26 : decode cX7_puts 26 = .ok (.iastore, 1) := by decide +kernel
theorem dX7_puts_27 : decode cX7_puts 27 = .ok (.iload 5, 2) := by decide +kernel
theorem dX7_puts_29 : decode cX7_puts 29 = .ok (.ireturn, 1) := by decide +kernel
theorem dX7_build_0 : decode cX7_build 0 = .ok (.iload_n 2, 1) := by decide +kernel
theorem dX7_build_1 : decode cX7_build 1 = .ok (.ifCond .ne 8, 3) := by decide +kernel
theorem dX7_build_4 : decode cX7_build 4 = .ok (.bipush 20, 2) := by decide +kernel
theorem dX7_build_6 : decode cX7_build 6 = .ok (.goto 24, 3) := by decide +kernel
theorem dX7_build_9 : decode cX7_build 9 = .ok (.iload_n 2, 1) := by decide +kernel
theorem dX7_build_10 : decode cX7_build 10 = .ok (.iconst 1, 1) := by decide +kernel
theorem dX7_build_11 : decode cX7_build 11 = .ok (.if_icmp .ne 8, 3) := by decide +kernel
theorem dX7_build_14 : decode cX7_build 14 = .ok (.bipush 40, 2) := by decide +kernel
theorem dX7_build_16 : decode cX7_build 16 = .ok (.goto 14, 3) := by decide +kernel
theorem dX7_build_19 : decode cX7_build 19 = .ok (.iload_n 2, 1) := by decide +kernel
theorem dX7_build_20 : decode cX7_build 20 = .ok (.iconst 2, 1) := by decide +kernel
theorem dX7_build_21 : decode cX7_build 21 = .ok (.if_icmp .ne 7, 3) := by decide +kernel
theorem dX7_build_24 : decode cX7_build 24 = .ok (.iconst 3, 1) := by decide +kernel
theorem dX7_build_25 : decode cX7_build 25 = .ok (.goto 5, 3) := by decide +kernel
theorem dX7_build_28 : decode cX7_build 28 = .ok (.bipush 99, 2) := by decide +kernel
theorem dX7_build_30 : decode cX7_build 30 = .ok (.istore 4, 2) := by decide +kernel
theorem dX7_build_32 : decode cX7_build 32 = .ok (.aload_n 0, 1) := by decide +kernel
theorem dX7_build_33 : decode cX7_build 33 = .ok (.aload_n 0, 1) := by decide +kernel
theorem dX7_build_34 : decode cX7_build 34 = .ok (.iload_n 1, 1) := by decide +kernel
theorem dX7_build_35 : decode cX7_build 35 = .ok (.invokevirtual 167, 3) := by decide +kernel
theorem dX7_build_38 : decode cX7_build 38 = .ok (.ifCond .eq 31, 3) := by decide +kernel
theorem dX7_build_41 : decode cX7_build 41 = .ok (.iload_n 2, 1) := by decide +kernel
theorem dX7_build_42 : decode cX7_build 42 = .ok (.i2l, 1) := by decide +kernel
theorem dX7_build_43 : decode cX7_build 43 = .ok (.lconst 0, 1) := by decide +kernel
theorem dX7_build_44 : decode cX7_build 44 = .ok (.ldc2_w 179, 3) := by decide +kernel
theorem dX7_build_47 : decode cX7_build 47 = .ok (.invokestatic 46, 3) := by decide +kernel
theorem dX7_build_50 : decode cX7_build 50 = .ok (.ifCond .eq 19, 3) := by decide +kernel
theorem dX7_build_53 : decode cX7_build 53 = .ok (.iload_n 3, 1) := by decide +kernel
theorem dX7_build_54 : decode cX7_build 54 = .ok (.i2l, 1) := by decide +kernel
theorem dX7_build_55 : decode cX7_build 55 = .ok (.lconst 0, 1) := by decide +kernel
theorem dX7_build_56 : decode cX7_build 56 = .ok (.iload 4, 2) := by decide +kernel
theorem dX7_build_58 : decode cX7_build 58 = .ok (.i2l, 1) := by decide +kernel
theorem dX7_build_59 : decode cX7_build 59 = .ok (.invokestatic 46, 3) := by decide +kernel
theorem dX7_build_62 : decode cX7_build 62 = .ok (.ifCond .eq 7, 3) := by decide +kernel
theorem dX7_build_65 : decode cX7_build 65 = .ok (.iconst 1, 1) := by decide +kernel
theorem dX7_build_66 : decode cX7_build 66 = .ok (.goto 4, 3) := by decide +kernel
theorem dX7_build_69 : decode cX7_build 69 = .ok (.iconst 0, 1) := by decide +kernel
theorem dX7_build_70 : decode cX7_build 70 = .ok (.iconst 4, 1) := by decide +kernel
theorem dX7_build_71 : decode cX7_build 71 = .ok (.iload_n 2, 1) := by decide +kernel
theorem dX7_build_72 : decode cX7_build 72 = .ok (.imul, 1) := by decide +kernel
theorem dX7_build_73 : decode cX7_build 73 = .ok (.iload_n 1, 1) := by decide +kernel
theorem dX7_build_74 : decode cX7_build 74 = .ok (.iadd, 1) := by decide +kernel
theorem dX7_build_75 : decode cX7_build 75 = .ok (.iload_n 3, 1) := by decide +kernel
theorem dX7_build_76 : decode cX7_build 76 = .ok (.iconst 0, 1) := by decide +kernel
theorem dX7_build_77 : decode cX7_build 77 = .ok (.invokevirtual 181, 3) := by decide +kernel
theorem dX7_build_80 : decode cX7_build 80 = .ok (.ireturn, 1) := by decide +kernel
theorem dX7_alter_0 : decode cX7_alter 0 = .ok (.iload_n 2, 1) := by decide +kernel
theorem dX7_alter_1 : decode cX7_alter 1 = .ok (.ifCond .ne 15, 3) := by decide +kernel
theorem dX7_alter_4 : decode cX7_alter 4 = .ok (.iload_n 3, 1) := by decide +kernel
theorem dX7_alter_5 : decode cX7_alter 5 = .ok (.i2l, 1) := by decide +kernel
theorem dX7_alter_6 : decode cX7_alter 6 = .ok (.lconst 0, 1) := by decide +kernel
theorem dX7_alter_7 : decode cX7_alter 7 = .ok (.ldc2_w 179, 3) := by decide +kernel
theorem dX7_alter_10 : decode cX7_alter 10 = .ok (.invokestatic 46, 3) := by decide +kernel
theorem dX7_alter_13 : decode cX7_alter 13 = .ok (.goto 42, 3) := by decide +kernel
theorem dX7_alter_16 : decode cX7_alter 16 = .ok (.iload_n 2, 1) := by decide +kernel
theorem dX7_alter_17 : decode cX7_alter 17 = .ok (.iconst 1, 1) := by decide +kernel
theorem dX7_alter_18 : decode cX7_alter 18 = .ok (.if_icmp .ne 15, 3) := by decide +kernel
theorem dX7_alter_21 : decode cX7_alter 21 = .ok (.iload_n 3, 1) := by decide +kernel
theorem dX7_alter_22 : decode cX7_alter 22 = .ok (.i2l, 1) := by decide +kernel
theorem dX7_alter_23 : decode cX7_alter 23 = .ok (.lconst 1, 1) := by decide +kernel
theorem dX7_alter_24 : decode cX7_alter 24 = .ok (.ldc2_w 185, 3) := by decide +kernel
theorem dX7_alter_27 : decode cX7_alter 27 = .ok (.invokestatic 46, 3) := by decide +kernel
theorem dX7_alter_30 : decode cX7_alter 30 = .ok (.goto 25, 3) := by decide +kernel
theorem dX7_alter_33 : decode cX7_alter 33 = .ok (.iload_n 2, 1) := by decide +kernel
theorem dX7_alter_34 : decode cX7_alter 34 = .ok (.iconst 2, 1) := by decide +kernel
theorem dX7_alter_35 : decode cX7_alter 35 = .ok (.if_icmp .ne 19, 3) := by decide +kernel
theorem dX7_alter_38 : decode cX7_alter 38 = .ok (.iload_n 3, 1) := by decide +kernel
theorem dX7_alter_39 : decode cX7_alter 39 = .ok (.i2l, 1) := by decide +kernel
theorem dX7_alter_40 : decode cX7_alter 40 = .ok (.lconst 0, 1) := by decide +kernel
theorem dX7_alter_41 : decode cX7_alter 41 = .ok (.ldc2_w 185, 3) := by decide +kernel
theorem dX7_alter_44 : decode cX7_alter 44 = .ok (.invokestatic 46, 3) := by decide +kernel
theorem dX7_alter_47 : decode cX7_alter 47 = .ok (.ifCond .eq 7, 3) := by decide +kernel
theorem dX7_alter_50 : decode cX7_alter 50 = .ok (.iconst 1, 1) := by decide +kernel
theorem dX7_alter_51 : decode cX7_alter 51 = .ok (.goto 4, 3) := by decide +kernel
theorem dX7_alter_54 : decode cX7_alter 54 = .ok (.iconst 0, 1) := by decide +kernel
theorem dX7_alter_55 : decode cX7_alter 55 = .ok (.istore 4, 2) := by decide +kernel
theorem dX7_alter_57 : decode cX7_alter 57 = .ok (.aload_n 0, 1) := by decide +kernel
theorem dX7_alter_58 : decode cX7_alter 58 = .ok (.aload_n 0, 1) := by decide +kernel
theorem dX7_alter_59 : decode cX7_alter 59 = .ok (.iload_n 1, 1) := by decide +kernel
theorem dX7_alter_60 : decode cX7_alter 60 = .ok (.invokevirtual 176, 3) := by decide +kernel
theorem dX7_alter_63 : decode cX7_alter 63 = .ok (.ifCond .eq 12, 3) := by decide +kernel
theorem dX7_alter_66 : decode cX7_alter 66 = .ok (.iload 4, 2) := by decide +kernel
theorem dX7_alter_68 : decode cX7_alter 68 = .ok (.ifCond .eq 7, 3) := by decide +kernel
theorem dX7_alter_71 : decode cX7_alter 71 = .ok (.iconst 1, 1) := by decide +kernel
theorem dX7_alter_72 : decode cX7_alter 72 = .ok (.goto 4, 3) := by decide +kernel
theorem dX7_alter_75 : decode cX7_alter 75 = .ok (.iconst 0, 1) := by decide +kernel
theorem dX7_alter_76 : decode cX7_alter 76 = .ok (.iload_n 2, 1) := by decide +kernel
theorem dX7_alter_77 : decode cX7_alter 77 = .ok (.ifCond .ne 10, 3) := by decide +kernel
theorem dX7_alter_80 : decode cX7_alter 80 = .ok (.bipush 20, 2) := by decide +kernel
theorem dX7_alter_82 : decode cX7_alter 82 = .ok (.iload_n 1, 1) := by decide +kernel
theorem dX7_alter_83 : decode cX7_alter 83 = .ok (.iadd, 1) := by decide +kernel
theorem dX7_alter_84 : decode cX7_alter 84 = .ok (.goto 14, 3) := by decide +kernel
theorem dX7_alter_87 : decode cX7_alter 87 = .ok (.bipush 36, 2) := by decide +kernel
theorem dX7_alter_89 : decode cX7_alter 89 = .ok (.bipush 8, 2) := by decide +kernel
theorem dX7_alter_91 : decode cX7_alter 91 = .ok (.iload_n 2, 1) := by decide +kernel
theorem dX7_alter_92 : decode cX7_alter 92 = .ok (.iconst 1, 1) := by decide +kernel
theorem dX7_alter_93 : decode cX7_alter 93 = .ok (.isub, 1) := by decide +kernel
theorem dX7_alter_94 : decode cX7_alter 94 = .ok (.imul, 1) := by decide +kernel
theorem dX7_alter_95 : decode cX7_alter 95 = .ok (.iadd, 1) := by decide +kernel
theorem dX7_alter_96 : decode cX7_alter 96 = .ok (.iload_n 1, 1) := by decide +kernel
theorem dX7_alter_97 : decode cX7_alter 97 = .ok (.iadd, 1) := by decide +kernel
theorem dX7_alter_98 : decode cX7_alter 98 = .ok (.iload_n 3, 1) := by decide +kernel
theorem dX7_alter_99 : decode cX7_alter 99 = .ok (.iconst 0, 1) := by decide +kernel
theorem dX7_alter_100 : decode cX7_alter 100 = .ok (.invokevirtual 181, 3) := by decide +kernel
theorem dX7_alter_103 : decode cX7_alter 103 = .ok (.ireturn, 1) := by decide +kernel
theorem dX7_tide_0 : decode cX7_tide 0 = .ok (.aload_n 0, 1) := by decide +kernel
theorem dX7_tide_1 : decode cX7_tide 1 = .ok (.iload_n 1, 1) := by decide +kernel
theorem dX7_tide_2 : decode cX7_tide 2 = .ok (.i2l, 1) := by decide +kernel
theorem dX7_tide_3 : decode cX7_tide 3 = .ok (.lconst 0, 1) := by decide +kernel
theorem dX7_tide_4 : decode cX7_tide 4 = .ok (.ldc2_w 104, 3) := by decide +kernel
theorem dX7_tide_7 : decode cX7_tide 7 = .ok (.invokestatic 46, 3) := by decide +kernel
theorem dX7_tide_10 : decode cX7_tide 10 = .ok (.ifCond .eq 19, 3) := by decide +kernel
theorem dX7_tide_13 : decode cX7_tide 13 = .ok (.iload_n 2, 1) := by decide +kernel
theorem dX7_tide_14 : decode cX7_tide 14 = .ok (.i2l, 1) := by decide +kernel
theorem dX7_tide_15 : decode cX7_tide 15 = .ok (.lconst 0, 1) := by decide +kernel
theorem dX7_tide_16 : decode cX7_tide 16 = .ok (.ldc2_w 187, 3) := by decide +kernel
theorem dX7_tide_19 : decode cX7_tide 19 = .ok (.invokestatic 46, 3) := by decide +kernel
theorem dX7_tide_22 : decode cX7_tide 22 = .ok (.ifCond .eq 7, 3) := by decide +kernel
theorem dX7_tide_25 : decode cX7_tide 25 = .ok (.iconst 1, 1) := by decide +kernel
theorem dX7_tide_26 : decode cX7_tide 26 = .ok (.goto 4, 3) := by decide +kernel
theorem dX7_tide_29 : decode cX7_tide 29 = .ok (.iconst 0, 1) := by decide +kernel
theorem dX7_tide_30 : decode cX7_tide 30 = .ok (.bipush 60, 2) := by decide +kernel
theorem dX7_tide_32 : decode cX7_tide 32 = .ok (.iload_n 1, 1) := by decide +kernel
theorem dX7_tide_33 : decode cX7_tide 33 = .ok (.iadd, 1) := by decide +kernel
theorem dX7_tide_34 : decode cX7_tide 34 = .ok (.iload_n 2, 1) := by decide +kernel
theorem dX7_tide_35 : decode cX7_tide 35 = .ok (.iconst 4, 1) := by decide +kernel
theorem dX7_tide_36 : decode cX7_tide 36 = .ok (.invokevirtual 181, 3) := by decide +kernel
theorem dX7_tide_39 : decode cX7_tide 39 = .ok (.ireturn, 1) := by decide +kernel
theorem dX7_blow_0 : decode cX7_blow 0 = .ok (.aload_n 0, 1) := by decide +kernel
theorem dX7_blow_1 : decode cX7_blow 1 = .ok (.iload_n 1, 1) := by decide +kernel
theorem dX7_blow_2 : decode cX7_blow 2 = .ok (.i2l, 1) := by decide +kernel
theorem dX7_blow_3 : decode cX7_blow 3 = .ok (.lconst 0, 1) := by decide +kernel
theorem dX7_blow_4 : decode cX7_blow 4 = .ok (.ldc2_w 187, 3) := by decide +kernel
theorem dX7_blow_7 : decode cX7_blow 7 = .ok (.invokestatic 46, 3) := by decide +kernel
theorem dX7_blow_10 : decode cX7_blow 10 = .ok (.bipush 67, 2) := by decide +kernel
theorem dX7_blow_12 : decode cX7_blow 12 = .ok (.iload_n 1, 1) := by decide +kernel
theorem dX7_blow_13 : decode cX7_blow 13 = .ok (.iconst 4, 1) := by decide +kernel
theorem dX7_blow_14 : decode cX7_blow 14 = .ok (.invokevirtual 181, 3) := by decide +kernel
theorem dX7_blow_17 : decode cX7_blow 17 = .ok (.ireturn, 1) := by decide +kernel
theorem dX7_stowsOn_0 : decode cX7_stowsOn 0 = .ok (.aload_n 0, 1) := by decide +kernel
theorem dX7_stowsOn_1 : decode cX7_stowsOn 1 = .ok (.iload_n 2, 1) := by decide +kernel
theorem dX7_stowsOn_2 : decode cX7_stowsOn 2 = .ok (.invokevirtual 176, 3) := by decide +kernel
theorem dX7_stowsOn_5 : decode cX7_stowsOn 5 = .ok (.ifCond .ne 5, 3) := by decide +kernel
theorem dX7_stowsOn_8 : decode cX7_stowsOn 8 = .ok (.iconst (-1), 1) := by decide +kernel
theorem dX7_stowsOn_9 : decode cX7_stowsOn 9 = .ok (.ireturn, 1) := by decide +kernel
theorem dX7_stowsOn_10 : decode cX7_stowsOn 10 = .ok (.aload_n 0, 1) := by decide +kernel
theorem dX7_stowsOn_11 : decode cX7_stowsOn 11 = .ok (.getfield 7, 3) := by decide +kernel
theorem dX7_stowsOn_14 : decode cX7_stowsOn 14 = .ok (.iload_n 1, 1) := by decide +kernel
theorem dX7_stowsOn_15 : decode cX7_stowsOn 15 = .ok (.bipush 28, 2) := by decide +kernel
theorem dX7_stowsOn_17 : decode cX7_stowsOn 17 = .ok (.iadd, 1) := by decide +kernel
theorem dX7_stowsOn_18 : decode cX7_stowsOn 18 = .ok (.iload_n 2, 1) := by decide +kernel
theorem dX7_stowsOn_19 : decode cX7_stowsOn 19 = .ok (.iadd, 1) := by decide +kernel
theorem dX7_stowsOn_20 : decode cX7_stowsOn 20 = .ok (.iaload, 1) := by decide +kernel
theorem dX7_stowsOn_21 : decode cX7_stowsOn 21 = .ok (.istore_n 3, 1) := by decide +kernel
theorem dX7_stowsOn_22 : decode cX7_stowsOn 22 = .ok (.aload_n 0, 1) := by decide +kernel
theorem dX7_stowsOn_23 : decode cX7_stowsOn 23 = .ok (.getfield 7, 3) := by decide +kernel
theorem dX7_stowsOn_26 : decode cX7_stowsOn 26 = .ok (.iload_n 1, 1) := by decide +kernel
theorem dX7_stowsOn_27 : decode cX7_stowsOn 27 = .ok (.bipush 52, 2) := by decide +kernel
theorem dX7_stowsOn_29 : decode cX7_stowsOn 29 = .ok (.iadd, 1) := by decide +kernel
theorem dX7_stowsOn_30 : decode cX7_stowsOn 30 = .ok (.iload_n 2, 1) := by decide +kernel
theorem dX7_stowsOn_31 : decode cX7_stowsOn 31 = .ok (.iadd, 1) := by decide +kernel
theorem dX7_stowsOn_32 : decode cX7_stowsOn 32 = .ok (.iaload, 1) := by decide +kernel
theorem dX7_stowsOn_33 : decode cX7_stowsOn 33 = .ok (.ifCond .ne 18, 3) := by decide +kernel
theorem dX7_stowsOn_36 : decode cX7_stowsOn 36 = .ok (.aload_n 0, 1) := by decide +kernel
theorem dX7_stowsOn_37 : decode cX7_stowsOn 37 = .ok (.getfield 7, 3) := by decide +kernel
theorem dX7_stowsOn_40 : decode cX7_stowsOn 40 = .ok (.iload_n 1, 1) := by decide +kernel
theorem dX7_stowsOn_41 : decode cX7_stowsOn 41 = .ok (.bipush 16, 2) := by decide +kernel
theorem dX7_stowsOn_43 : decode cX7_stowsOn 43 = .ok (.iadd, 1) := by decide +kernel
theorem dX7_stowsOn_44 : decode cX7_stowsOn 44 = .ok (.iload_n 3, 1) := by decide +kernel
theorem dX7_stowsOn_45 : decode cX7_stowsOn 45 = .ok (.iadd, 1) := by decide +kernel
theorem dX7_stowsOn_46 : decode cX7_stowsOn 46 = .ok (.iaload, 1) := by decide +kernel
theorem dX7_stowsOn_47 : decode cX7_stowsOn 47 = .ok (.iconst 1, 1) := by decide +kernel
theorem dX7_stowsOn_48 : decode cX7_stowsOn 48 = .ok (.if_icmp .ne 6, 3) := by decide +kernel
theorem dX7_stowsOn_51 : decode cX7_stowsOn 51 = .ok (.bipush (-2), 2) := by decide +kernel
theorem dX7_stowsOn_53 : decode cX7_stowsOn 53 = .ok (.ireturn, 1) := by decide +kernel
theorem dX7_stowsOn_54 : decode cX7_stowsOn 54 = .ok (.aload_n 0, 1) := by decide +kernel
theorem dX7_stowsOn_55 : decode cX7_stowsOn 55 = .ok (.getfield 7, 3) := by decide +kernel
theorem dX7_stowsOn_58 : decode cX7_stowsOn 58 = .ok (.iload_n 1, 1) := by decide +kernel
theorem dX7_stowsOn_59 : decode cX7_stowsOn 59 = .ok (.iconst 4, 1) := by decide +kernel
theorem dX7_stowsOn_60 : decode cX7_stowsOn 60 = .ok (.iadd, 1) := by decide +kernel
theorem dX7_stowsOn_61 : decode cX7_stowsOn 61 = .ok (.iload_n 3, 1) := by decide +kernel
theorem dX7_stowsOn_62 : decode cX7_stowsOn 62 = .ok (.iadd, 1) := by decide +kernel
theorem dX7_stowsOn_63 : decode cX7_stowsOn 63 = .ok (.iaload, 1) := by decide +kernel
theorem dX7_stowsOn_64 : decode cX7_stowsOn 64 = .ok (.aload_n 0, 1) := by decide +kernel
theorem dX7_stowsOn_65 : decode cX7_stowsOn 65 = .ok (.iload_n 1, 1) := by decide +kernel
theorem dX7_stowsOn_66 : decode cX7_stowsOn 66 = .ok (.iload_n 3, 1) := by decide +kernel
theorem dX7_stowsOn_67 : decode cX7_stowsOn 67 = .ok (.invokevirtual 151, 3) := by decide +kernel
theorem dX7_stowsOn_70 : decode cX7_stowsOn 70 = .ok (.isub, 1) := by decide +kernel
theorem dX7_stowsOn_71 : decode cX7_stowsOn 71 = .ok (.aload_n 0, 1) := by decide +kernel
theorem dX7_stowsOn_72 : decode cX7_stowsOn 72 = .ok (.iload_n 1, 1) := by decide +kernel
theorem dX7_stowsOn_73 : decode cX7_stowsOn 73 = .ok (.iload_n 2, 1) := by decide +kernel
theorem dX7_stowsOn_74 : decode cX7_stowsOn 74 = .ok (.invokevirtual 145, 3) := by decide +kernel
theorem dX7_stowsOn_77 : decode cX7_stowsOn 77 = .ok (.isub, 1) := by decide +kernel
theorem dX7_stowsOn_78 : decode cX7_stowsOn 78 = .ok (.istore 4, 2) := by decide +kernel
theorem dX7_stowsOn_80 : decode cX7_stowsOn 80 = .ok (.iload 4, 2) := by decide +kernel
theorem dX7_stowsOn_82 : decode cX7_stowsOn 82 = .ok (.ifCond .ge 6, 3) := by decide +kernel
theorem dX7_stowsOn_85 : decode cX7_stowsOn 85 = .ok (.bipush (-3), 2) := by decide +kernel
theorem dX7_stowsOn_87 : decode cX7_stowsOn 87 = .ok (.ireturn, 1) := by decide +kernel
theorem dX7_stowsOn_88 : decode cX7_stowsOn 88 = .ok (.aload_n 0, 1) := by decide +kernel
theorem dX7_stowsOn_89 : decode cX7_stowsOn 89 = .ok (.getfield 7, 3) := by decide +kernel
theorem dX7_stowsOn_92 : decode cX7_stowsOn 92 = .ok (.iload_n 1, 1) := by decide +kernel
theorem dX7_stowsOn_93 : decode cX7_stowsOn 93 = .ok (.bipush 52, 2) := by decide +kernel
theorem dX7_stowsOn_95 : decode cX7_stowsOn 95 = .ok (.iadd, 1) := by decide +kernel
theorem dX7_stowsOn_96 : decode cX7_stowsOn 96 = .ok (.iload_n 2, 1) := by decide +kernel
theorem dX7_stowsOn_97 : decode cX7_stowsOn 97 = .ok (.iadd, 1) := by decide +kernel
theorem dX7_stowsOn_98 : decode cX7_stowsOn 98 = .ok (.iconst 1, 1) := by decide +kernel
theorem dX7_stowsOn_99 : decode cX7_stowsOn 99 = .ok (.iastore, 1) := by decide +kernel
theorem dX7_stowsOn_100 : decode cX7_stowsOn 100 = .ok (.iload 4, 2) := by decide +kernel
theorem dX7_stowsOn_102 : decode cX7_stowsOn 102 = .ok (.ireturn, 1) := by decide +kernel
theorem dX7_stow_0 : decode cX7_stow 0 = .ok (.aload_n 0, 1) := by decide +kernel
theorem dX7_stow_1 : decode cX7_stow 1 = .ok (.iconst 0, 1) := by decide +kernel
theorem dX7_stow_2 : decode cX7_stow 2 = .ok (.iload_n 1, 1) := by decide +kernel
theorem dX7_stow_3 : decode cX7_stow 3 = .ok (.invokevirtual 189, 3) := by decide +kernel
theorem dX7_stow_6 : decode cX7_stow 6 = .ok (.ireturn, 1) := by decide +kernel
theorem dX7_fetch_0 : decode cX7_fetch 0 = .ok (.aload_n 0, 1) := by decide +kernel
theorem dX7_fetch_1 : decode cX7_fetch 1 = .ok (.iload_n 1, 1) := by decide +kernel
theorem dX7_fetch_2 : decode cX7_fetch 2 = .ok (.invokevirtual 176, 3) := by decide +kernel
theorem dX7_fetch_5 : decode cX7_fetch 5 = .ok (.ifCond .ne 5, 3) := by decide +kernel
theorem dX7_fetch_8 : decode cX7_fetch 8 = .ok (.iconst (-1), 1) := by decide +kernel
theorem dX7_fetch_9 : decode cX7_fetch 9 = .ok (.ireturn, 1) := by decide +kernel
theorem dX7_fetch_10 : decode cX7_fetch 10 = .ok (.aload_n 0, 1) := by decide +kernel
theorem dX7_fetch_11 : decode cX7_fetch 11 = .ok (.getfield 7, 3) := by decide +kernel
theorem dX7_fetch_14 : decode cX7_fetch 14 = .ok (.bipush 28, 2) := by decide +kernel
theorem dX7_fetch_16 : decode cX7_fetch 16 = .ok (.iload_n 1, 1) := by decide +kernel
theorem dX7_fetch_17 : decode cX7_fetch 17 = .ok (.iadd, 1) := by decide +kernel
theorem dX7_fetch_18 : decode cX7_fetch 18 = .ok (.iaload, 1) := by decide +kernel
theorem dX7_fetch_19 : decode cX7_fetch 19 = .ok (.istore_n 2, 1) := by decide +kernel
theorem dX7_fetch_20 : decode cX7_fetch 20 = .ok (.aload_n 0, 1) := by decide +kernel
theorem dX7_fetch_21 : decode cX7_fetch 21 = .ok (.getfield 7, 3) := by decide +kernel
theorem dX7_fetch_24 : decode cX7_fetch 24 = .ok (.bipush 52, 2) := by decide +kernel
theorem dX7_fetch_26 : decode cX7_fetch 26 = .ok (.iload_n 1, 1) := by decide +kernel
theorem dX7_fetch_27 : decode cX7_fetch 27 = .ok (.iadd, 1) := by decide +kernel
theorem dX7_fetch_28 : decode cX7_fetch 28 = .ok (.iaload, 1) := by decide +kernel
theorem dX7_fetch_29 : decode cX7_fetch 29 = .ok (.iconst 1, 1) := by decide +kernel
theorem dX7_fetch_30 : decode cX7_fetch 30 = .ok (.if_icmp .ne 16, 3) := by decide +kernel
theorem dX7_fetch_33 : decode cX7_fetch 33 = .ok (.aload_n 0, 1) := by decide +kernel
theorem dX7_fetch_34 : decode cX7_fetch 34 = .ok (.getfield 7, 3) := by decide +kernel
theorem dX7_fetch_37 : decode cX7_fetch 37 = .ok (.bipush 16, 2) := by decide +kernel
theorem dX7_fetch_39 : decode cX7_fetch 39 = .ok (.iload_n 2, 1) := by decide +kernel
theorem dX7_fetch_40 : decode cX7_fetch 40 = .ok (.iadd, 1) := by decide +kernel
theorem dX7_fetch_41 : decode cX7_fetch 41 = .ok (.iaload, 1) := by decide +kernel
theorem dX7_fetch_42 : decode cX7_fetch 42 = .ok (.iconst 1, 1) := by decide +kernel
theorem dX7_fetch_43 : decode cX7_fetch 43 = .ok (.if_icmp .ne 6, 3) := by decide +kernel
theorem dX7_fetch_46 : decode cX7_fetch 46 = .ok (.bipush (-2), 2) := by decide +kernel
theorem dX7_fetch_48 : decode cX7_fetch 48 = .ok (.ireturn, 1) := by decide +kernel
theorem dX7_fetch_49 : decode cX7_fetch 49 = .ok (.aload_n 0, 1) := by decide +kernel
theorem dX7_fetch_50 : decode cX7_fetch 50 = .ok (.getfield 7, 3) := by decide +kernel
theorem dX7_fetch_53 : decode cX7_fetch 53 = .ok (.bipush 52, 2) := by decide +kernel
theorem dX7_fetch_55 : decode cX7_fetch 55 = .ok (.iload_n 1, 1) := by decide +kernel
theorem dX7_fetch_56 : decode cX7_fetch 56 = .ok (.iadd, 1) := by decide +kernel
theorem dX7_fetch_57 : decode cX7_fetch 57 = .ok (.iconst 0, 1) := by decide +kernel
theorem dX7_fetch_58 : decode cX7_fetch 58 = .ok (.iastore, 1) := by decide +kernel
theorem dX7_fetch_59 : decode cX7_fetch 59 = .ok (.aload_n 0, 1) := by decide +kernel
theorem dX7_fetch_60 : decode cX7_fetch 60 = .ok (.getfield 7, 3) := by decide +kernel
theorem dX7_fetch_63 : decode cX7_fetch 63 = .ok (.iconst 4, 1) := by decide +kernel
theorem dX7_fetch_64 : decode cX7_fetch 64 = .ok (.iload_n 2, 1) := by decide +kernel
theorem dX7_fetch_65 : decode cX7_fetch 65 = .ok (.iadd, 1) := by decide +kernel
theorem dX7_fetch_66 : decode cX7_fetch 66 = .ok (.iaload, 1) := by decide +kernel
theorem dX7_fetch_67 : decode cX7_fetch 67 = .ok (.aload_n 0, 1) := by decide +kernel
theorem dX7_fetch_68 : decode cX7_fetch 68 = .ok (.iconst 0, 1) := by decide +kernel
theorem dX7_fetch_69 : decode cX7_fetch 69 = .ok (.iload_n 2, 1) := by decide +kernel
theorem dX7_fetch_70 : decode cX7_fetch 70 = .ok (.invokevirtual 151, 3) := by decide +kernel
theorem dX7_fetch_73 : decode cX7_fetch 73 = .ok (.isub, 1) := by decide +kernel
theorem dX7_fetch_74 : decode cX7_fetch 74 = .ok (.istore_n 3, 1) := by decide +kernel
theorem dX7_fetch_75 : decode cX7_fetch 75 = .ok (.iload_n 3, 1) := by decide +kernel
theorem dX7_fetch_76 : decode cX7_fetch 76 = .ok (.ifCond .ge 7, 3) := by decide +kernel
theorem dX7_fetch_79 : decode cX7_fetch 79 = .ok (.iconst 0, 1) := by decide +kernel
theorem dX7_fetch_80 : decode cX7_fetch 80 = .ok (.goto 4, 3) := by decide +kernel
theorem dX7_fetch_83 : decode cX7_fetch 83 = .ok (.iload_n 3, 1) := by decide +kernel
theorem dX7_fetch_84 : decode cX7_fetch 84 = .ok (.ireturn, 1) := by decide +kernel
theorem dX7_days_0 : decode cX7_days 0 = .ok (.iload_n 1, 1) := by decide +kernel
theorem dX7_days_1 : decode cX7_days 1 = .ok (.i2l, 1) := by decide +kernel
theorem dX7_days_2 : decode cX7_days 2 = .ok (.lconst 0, 1) := by decide +kernel
theorem dX7_days_3 : decode cX7_days 3 = .ok (.ldc2_w 192, 3) := by decide +kernel
theorem dX7_days_6 : decode cX7_days 6 = .ok (.invokestatic 46, 3) := by decide +kernel
theorem dX7_days_9 : decode cX7_days 9 = .ok (.ifCond .ne 5, 3) := by decide +kernel
theorem dX7_days_12 : decode cX7_days 12 = .ok (.iconst (-1), 1) := by decide +kernel
theorem dX7_days_13 : decode cX7_days 13 = .ok (.ireturn, 1) := by decide +kernel
theorem dX7_days_14 : decode cX7_days 14 = .ok (.aload_n 0, 1) := by decide +kernel
theorem dX7_days_15 : decode cX7_days 15 = .ok (.getfield 7, 3) := by decide +kernel
theorem dX7_days_18 : decode cX7_days 18 = .ok (.bipush 69, 2) := by decide +kernel
theorem dX7_days_20 : decode cX7_days 20 = .ok (.iaload, 1) := by decide +kernel
theorem dX7_days_21 : decode cX7_days 21 = .ok (.iload_n 1, 1) := by decide +kernel
theorem dX7_days_22 : decode cX7_days 22 = .ok (.iadd, 1) := by decide +kernel
theorem dX7_days_23 : decode cX7_days 23 = .ok (.sipush 999, 3) := by decide +kernel
theorem dX7_days_26 : decode cX7_days 26 = .ok (.if_icmp .le 6, 3) := by decide +kernel
theorem dX7_days_29 : decode cX7_days 29 = .ok (.bipush (-3), 2) := by decide +kernel
theorem dX7_days_31 : decode cX7_days 31 = .ok (.ireturn, 1) := by decide +kernel
theorem dX7_days_32 : decode cX7_days 32 = .ok (.aload_n 0, 1) := by decide +kernel
theorem dX7_days_33 : decode cX7_days 33 = .ok (.getfield 7, 3) := by decide +kernel
theorem dX7_days_36 : decode cX7_days 36 = .ok (.bipush 70, 2) := by decide +kernel
theorem dX7_days_38 : decode cX7_days 38 = .ok (.iaload, 1) := by decide +kernel
theorem dX7_days_39 : decode cX7_days 39 = .ok (.istore_n 2, 1) := by decide +kernel
theorem dX7_days_40 : decode cX7_days 40 = .ok (.iconst 0, 1) := by decide +kernel
theorem dX7_days_41 : decode cX7_days 41 = .ok (.istore_n 3, 1) := by decide +kernel
theorem dX7_days_42 : decode cX7_days 42 = .ok (.iload_n 3, 1) := by decide +kernel
theorem dX7_days_43 : decode cX7_days 43 = .ok (.iload_n 1, 1) := by decide +kernel
theorem dX7_days_44 : decode cX7_days 44 = .ok (.if_icmp .ge 19, 3) := by decide +kernel
theorem dX7_days_47 : decode cX7_days 47 = .ok (.aload_n 0, 1) := by decide +kernel
theorem dX7_days_48 : decode cX7_days 48 = .ok (.iconst 0, 1) := by decide +kernel
theorem dX7_days_49 : decode cX7_days 49 = .ok (.aload_n 0, 1) := by decide +kernel
theorem dX7_days_50 : decode cX7_days 50 = .ok (.iconst 0, 1) := by decide +kernel
theorem dX7_days_51 : decode cX7_days 51 = .ok (.invokevirtual 194, 3) := by decide +kernel
theorem dX7_days_54 : decode cX7_days 54 = .ok (.invokevirtual 197, 3) := by decide +kernel
theorem dX7_days_57 : decode cX7_days 57 = .ok (.iinc 3 1, 3) := by decide +kernel
theorem dX7_days_60 : decode cX7_days 60 = .ok (.goto (-18), 3) := by decide +kernel
theorem dX7_days_63 : decode cX7_days 63 = .ok (.aload_n 0, 1) := by decide +kernel
theorem dX7_days_64 : decode cX7_days 64 = .ok (.getfield 7, 3) := by decide +kernel
theorem dX7_days_67 : decode cX7_days 67 = .ok (.bipush 70, 2) := by decide +kernel
theorem dX7_days_69 : decode cX7_days 69 = .ok (.iaload, 1) := by decide +kernel
theorem dX7_days_70 : decode cX7_days 70 = .ok (.iload_n 2, 1) := by decide +kernel
theorem dX7_days_71 : decode cX7_days 71 = .ok (.isub, 1) := by decide +kernel
theorem dX7_days_72 : decode cX7_days 72 = .ok (.ireturn, 1) := by decide +kernel
theorem dX7_copies_0 : decode cX7_copies 0 = .ok (.iconst 0, 1) := by decide +kernel
theorem dX7_copies_1 : decode cX7_copies 1 = .ok (.istore_n 3, 1) := by decide +kernel
theorem dX7_copies_2 : decode cX7_copies 2 = .ok (.iload_n 3, 1) := by decide +kernel
theorem dX7_copies_3 : decode cX7_copies 3 = .ok (.bipush 71, 2) := by decide +kernel
theorem dX7_copies_5 : decode cX7_copies 5 = .ok (.if_icmp .ge 25, 3) := by decide +kernel
theorem dX7_copies_8 : decode cX7_copies 8 = .ok (.aload_n 0, 1) := by decide +kernel
theorem dX7_copies_9 : decode cX7_copies 9 = .ok (.getfield 7, 3) := by decide +kernel
theorem dX7_copies_12 : decode cX7_copies 12 = .ok (.iload_n 2, 1) := by decide +kernel
theorem dX7_copies_13 : decode cX7_copies 13 = .ok (.iload_n 3, 1) := by decide +kernel
theorem dX7_copies_14 : decode cX7_copies 14 = .ok (.iadd, 1) := by decide +kernel
theorem dX7_copies_15 : decode cX7_copies 15 = .ok (.aload_n 0, 1) := by decide +kernel
theorem dX7_copies_16 : decode cX7_copies 16 = .ok (.getfield 7, 3) := by decide +kernel
theorem dX7_copies_19 : decode cX7_copies 19 = .ok (.iload_n 1, 1) := by decide +kernel
theorem dX7_copies_20 : decode cX7_copies 20 = .ok (.iload_n 3, 1) := by decide +kernel
theorem dX7_copies_21 : decode cX7_copies 21 = .ok (.iadd, 1) := by decide +kernel
theorem dX7_copies_22 : decode cX7_copies 22 = .ok (.iaload, 1) := by decide +kernel
theorem dX7_copies_23 : decode cX7_copies 23 = .ok (.iastore, 1) := by decide +kernel
theorem dX7_copies_24 : decode cX7_copies 24 = .ok (.iinc 3 1, 3) := by decide +kernel
theorem dX7_copies_27 : decode cX7_copies 27 = .ok (.goto (-25), 3) := by decide +kernel
theorem dX7_copies_30 : decode cX7_copies 30 = .ok (.return_, 1) := by decide +kernel
theorem dX7_daysGo_0 : decode cX7_daysGo 0 = .ok (.aload_n 0, 1) := by decide +kernel
theorem dX7_daysGo_1 : decode cX7_daysGo 1 = .ok (.iload_n 1, 1) := by decide +kernel
theorem dX7_daysGo_2 : decode cX7_daysGo 2 = .ok (.sipush 284, 3) := by decide +kernel
theorem dX7_daysGo_5 : decode cX7_daysGo 5 = .ok (.invokevirtual 200, 3) := by decide +kernel
theorem dX7_daysGo_8 : decode cX7_daysGo 8 = .ok (.aload_n 0, 1) := by decide +kernel
theorem dX7_daysGo_9 : decode cX7_daysGo 9 = .ok (.aload_n 0, 1) := by decide +kernel
theorem dX7_daysGo_10 : decode cX7_daysGo 10 = .ok (.getfield 7, 3) := by decide +kernel
theorem dX7_daysGo_13 : decode cX7_daysGo 13 = .ok (.sipush 352, 3) := by decide +kernel
theorem dX7_daysGo_16 : decode cX7_daysGo 16 = .ok (.iaload, 1) := by decide +kernel
theorem dX7_daysGo_17 : decode cX7_daysGo 17 = .ok (.putfield 203, 3) := by decide +kernel
theorem dX7_daysGo_20 : decode cX7_daysGo 20 = .ok (.iconst 0, 1) := by decide +kernel
theorem dX7_daysGo_21 : decode cX7_daysGo 21 = .ok (.istore_n 3, 1) := by decide +kernel
theorem dX7_daysGo_22 : decode cX7_daysGo 22 = .ok (.iload_n 3, 1) := by decide +kernel
theorem dX7_daysGo_23 : decode cX7_daysGo 23 = .ok (.iload_n 2, 1) := by decide +kernel
theorem dX7_daysGo_24 : decode cX7_daysGo 24 = .ok (.if_icmp .ge 57, 3) := by decide +kernel
theorem dX7_daysGo_27 : decode cX7_daysGo 27 = .ok (.aload_n 0, 1) := by decide +kernel
theorem dX7_daysGo_28 : decode cX7_daysGo 28 = .ok (.sipush 284, 3) := by decide +kernel
theorem dX7_daysGo_31 : decode cX7_daysGo 31 = .ok (.aload_n 0, 1) := by decide +kernel
theorem dX7_daysGo_32 : decode cX7_daysGo 32 = .ok (.sipush 284, 3) := by decide +kernel
theorem dX7_daysGo_35 : decode cX7_daysGo 35 = .ok (.invokevirtual 194, 3) := by decide +kernel
theorem dX7_daysGo_38 : decode cX7_daysGo 38 = .ok (.invokevirtual 197, 3) := by decide +kernel
theorem dX7_daysGo_41 : decode cX7_daysGo 41 = .ok (.aload_n 0, 1) := by decide +kernel
theorem dX7_daysGo_42 : decode cX7_daysGo 42 = .ok (.aload_n 0, 1) := by decide +kernel
theorem dX7_daysGo_43 : decode cX7_daysGo 43 = .ok (.getfield 7, 3) := by decide +kernel
theorem dX7_daysGo_46 : decode cX7_daysGo 46 = .ok (.sipush 352, 3) := by decide +kernel
theorem dX7_daysGo_49 : decode cX7_daysGo 49 = .ok (.iaload, 1) := by decide +kernel
theorem dX7_daysGo_50 : decode cX7_daysGo 50 = .ok (.aload_n 0, 1) := by decide +kernel
theorem dX7_daysGo_51 : decode cX7_daysGo 51 = .ok (.getfield 203, 3) := by decide +kernel
theorem dX7_daysGo_54 : decode cX7_daysGo 54 = .ok (.if_icmp .le 14, 3) := by decide +kernel
theorem dX7_daysGo_57 : decode cX7_daysGo 57 = .ok (.aload_n 0, 1) := by decide +kernel
theorem dX7_daysGo_58 : decode cX7_daysGo 58 = .ok (.getfield 7, 3) := by decide +kernel
theorem dX7_daysGo_61 : decode cX7_daysGo 61 = .ok (.sipush 352, 3) := by decide +kernel
theorem dX7_daysGo_64 : decode cX7_daysGo 64 = .ok (.iaload, 1) := by decide +kernel
theorem dX7_daysGo_65 : decode cX7_daysGo 65 = .ok (.goto 7, 3) := by decide +kernel
theorem dX7_daysGo_68 : decode cX7_daysGo 68 = .ok (.aload_n 0, 1) := by decide +kernel
theorem dX7_daysGo_69 : decode cX7_daysGo 69 = .ok (.getfield 203, 3) := by decide +kernel
theorem dX7_daysGo_72 : decode cX7_daysGo 72 = .ok (.putfield 203, 3) := by decide +kernel
theorem dX7_daysGo_75 : decode cX7_daysGo 75 = .ok (.iinc 3 1, 3) := by decide +kernel
theorem dX7_daysGo_78 : decode cX7_daysGo 78 = .ok (.goto (-56), 3) := by decide +kernel
theorem dX7_daysGo_81 : decode cX7_daysGo 81 = .ok (.aload_n 0, 1) := by decide +kernel
theorem dX7_daysGo_82 : decode cX7_daysGo 82 = .ok (.getfield 7, 3) := by decide +kernel
theorem dX7_daysGo_85 : decode cX7_daysGo 85 = .ok (.sipush 354, 3) := by decide +kernel
theorem dX7_daysGo_88 : decode cX7_daysGo 88 = .ok (.iaload, 1) := by decide +kernel
theorem dX7_daysGo_89 : decode cX7_daysGo 89 = .ok (.aload_n 0, 1) := by decide +kernel
theorem dX7_daysGo_90 : decode cX7_daysGo 90 = .ok (.getfield 7, 3) := by decide +kernel
theorem dX7_daysGo_93 : decode cX7_daysGo 93 = .ok (.bipush 70, 2) := by decide +kernel
theorem dX7_daysGo_95 : decode cX7_daysGo 95 = .ok (.iaload, 1) := by decide +kernel
theorem dX7_daysGo_96 : decode cX7_daysGo 96 = .ok (.isub, 1) := by decide +kernel
theorem dX7_daysGo_97 : decode cX7_daysGo 97 = .ok (.ireturn, 1) := by decide +kernel
theorem dX7_runs_0 : decode cX7_runs 0 = .ok (.iload_n 1, 1) := by decide +kernel
theorem dX7_runs_1 : decode cX7_runs 1 = .ok (.i2l, 1) := by decide +kernel
theorem dX7_runs_2 : decode cX7_runs 2 = .ok (.lconst 0, 1) := by decide +kernel
theorem dX7_runs_3 : decode cX7_runs 3 = .ok (.ldc2_w 206, 3) := by decide +kernel
theorem dX7_runs_6 : decode cX7_runs 6 = .ok (.invokestatic 46, 3) := by decide +kernel
theorem dX7_runs_9 : decode cX7_runs 9 = .ok (.ifCond .eq 15, 3) := by decide +kernel
theorem dX7_runs_12 : decode cX7_runs 12 = .ok (.iload_n 2, 1) := by decide +kernel
theorem dX7_runs_13 : decode cX7_runs 13 = .ok (.i2l, 1) := by decide +kernel
theorem dX7_runs_14 : decode cX7_runs 14 = .ok (.lconst 0, 1) := by decide +kernel
theorem dX7_runs_15 : decode cX7_runs 15 = .ok (.ldc2_w 179, 3) := by decide +kernel
theorem dX7_runs_18 : decode cX7_runs 18 = .ok (.invokestatic 46, 3) := by decide +kernel
theorem dX7_runs_21 : decode cX7_runs 21 = .ok (.ifCond .ne 5, 3) := by decide +kernel
theorem dX7_runs_24 : decode cX7_runs 24 = .ok (.iconst (-1), 1) := by decide +kernel
theorem dX7_runs_25 : decode cX7_runs 25 = .ok (.ireturn, 1) := by decide +kernel
theorem dX7_runs_26 : decode cX7_runs 26 = .ok (.aload_n 0, 1) := by decide +kernel
theorem dX7_runs_27 : decode cX7_runs 27 = .ok (.iconst 0, 1) := by decide +kernel
theorem dX7_runs_28 : decode cX7_runs 28 = .ok (.iload_n 1, 1) := by decide +kernel
theorem dX7_runs_29 : decode cX7_runs 29 = .ok (.invokevirtual 208, 3) := by decide +kernel
theorem dX7_runs_32 : decode cX7_runs 32 = .ok (.istore_n 3, 1) := by decide +kernel
theorem dX7_runs_33 : decode cX7_runs 33 = .ok (.iload_n 2, 1) := by decide +kernel
theorem dX7_runs_34 : decode cX7_runs 34 = .ok (.ifCond .ne 7, 3) := by decide +kernel
theorem dX7_runs_37 : decode cX7_runs 37 = .ok (.iload_n 3, 1) := by decide +kernel
theorem dX7_runs_38 : decode cX7_runs 38 = .ok (.goto 38, 3) := by decide +kernel
theorem dX7_runs_41 : decode cX7_runs 41 = .ok (.iload_n 2, 1) := by decide +kernel
theorem dX7_runs_42 : decode cX7_runs 42 = .ok (.iconst 1, 1) := by decide +kernel
theorem dX7_runs_43 : decode cX7_runs 43 = .ok (.if_icmp .ne 14, 3) := by decide +kernel
theorem dX7_runs_46 : decode cX7_runs 46 = .ok (.aload_n 0, 1) := by decide +kernel
theorem dX7_runs_47 : decode cX7_runs 47 = .ok (.sipush 284, 3) := by decide +kernel
theorem dX7_runs_50 : decode cX7_runs 50 = .ok (.iconst 2, 1) := by decide +kernel
theorem dX7_runs_51 : decode cX7_runs 51 = .ok (.invokevirtual 164, 3) := by decide +kernel
theorem dX7_runs_54 : decode cX7_runs 54 = .ok (.goto 22, 3) := by decide +kernel
theorem dX7_runs_57 : decode cX7_runs 57 = .ok (.iload_n 2, 1) := by decide +kernel
theorem dX7_runs_58 : decode cX7_runs 58 = .ok (.iconst 2, 1) := by decide +kernel
theorem dX7_runs_59 : decode cX7_runs 59 = .ok (.if_icmp .ne 13, 3) := by decide +kernel
theorem dX7_runs_62 : decode cX7_runs 62 = .ok (.aload_n 0, 1) := by decide +kernel
theorem dX7_runs_63 : decode cX7_runs 63 = .ok (.sipush 284, 3) := by decide +kernel
theorem dX7_runs_66 : decode cX7_runs 66 = .ok (.invokevirtual 161, 3) := by decide +kernel
theorem dX7_runs_69 : decode cX7_runs 69 = .ok (.goto 7, 3) := by decide +kernel
theorem dX7_runs_72 : decode cX7_runs 72 = .ok (.aload_n 0, 1) := by decide +kernel
theorem dX7_runs_73 : decode cX7_runs 73 = .ok (.getfield 203, 3) := by decide +kernel
theorem dX7_runs_76 : decode cX7_runs 76 = .ok (.ireturn, 1) := by decide +kernel
theorem dX7_ahead_0 : decode cX7_ahead 0 = .ok (.aload_n 0, 1) := by decide +kernel
theorem dX7_ahead_1 : decode cX7_ahead 1 = .ok (.iload_n 1, 1) := by decide +kernel
theorem dX7_ahead_2 : decode cX7_ahead 2 = .ok (.invokevirtual 167, 3) := by decide +kernel
theorem dX7_ahead_5 : decode cX7_ahead 5 = .ok (.ifCond .eq 25, 3) := by decide +kernel
theorem dX7_ahead_8 : decode cX7_ahead 8 = .ok (.iload_n 2, 1) := by decide +kernel
theorem dX7_ahead_9 : decode cX7_ahead 9 = .ok (.i2l, 1) := by decide +kernel
theorem dX7_ahead_10 : decode cX7_ahead 10 = .ok (.lconst 0, 1) := by decide +kernel
theorem dX7_ahead_11 : decode cX7_ahead 11 = .ok (.ldc2_w 206, 3) := by decide +kernel
theorem dX7_ahead_14 : decode cX7_ahead 14 = .ok (.invokestatic 46, 3) := by decide +kernel
theorem dX7_ahead_17 : decode cX7_ahead 17 = .ok (.ifCond .eq 13, 3) := by decide +kernel
theorem dX7_ahead_20 : decode cX7_ahead 20 = .ok (.iload_n 3, 1) := by decide +kernel
theorem dX7_ahead_21 : decode cX7_ahead 21 = .ok (.i2l, 1) := by decide +kernel
theorem dX7_ahead_22 : decode cX7_ahead 22 = .ok (.lconst 0, 1) := by decide +kernel
theorem dX7_ahead_23 : decode cX7_ahead 23 = .ok (.lconst 1, 1) := by decide +kernel
theorem dX7_ahead_24 : decode cX7_ahead 24 = .ok (.invokestatic 46, 3) := by decide +kernel
theorem dX7_ahead_27 : decode cX7_ahead 27 = .ok (.ifCond .ne 5, 3) := by decide +kernel
theorem dX7_ahead_30 : decode cX7_ahead 30 = .ok (.iconst (-1), 1) := by decide +kernel
theorem dX7_ahead_31 : decode cX7_ahead 31 = .ok (.ireturn, 1) := by decide +kernel
theorem dX7_ahead_32 : decode cX7_ahead 32 = .ok (.aload_n 0, 1) := by decide +kernel
theorem dX7_ahead_33 : decode cX7_ahead 33 = .ok (.iconst 0, 1) := by decide +kernel
theorem dX7_ahead_34 : decode cX7_ahead 34 = .ok (.iload_n 2, 1) := by decide +kernel
theorem dX7_ahead_35 : decode cX7_ahead 35 = .ok (.invokevirtual 208, 3) := by decide +kernel
theorem dX7_ahead_38 : decode cX7_ahead 38 = .ok (.pop, 1) := by decide +kernel
theorem dX7_ahead_39 : decode cX7_ahead 39 = .ok (.iload_n 3, 1) := by decide +kernel
theorem dX7_ahead_40 : decode cX7_ahead 40 = .ok (.ifCond .ne 16, 3) := by decide +kernel
theorem dX7_ahead_43 : decode cX7_ahead 43 = .ok (.aload_n 0, 1) := by decide +kernel
theorem dX7_ahead_44 : decode cX7_ahead 44 = .ok (.getfield 7, 3) := by decide +kernel
theorem dX7_ahead_47 : decode cX7_ahead 47 = .ok (.sipush 296, 3) := by decide +kernel
theorem dX7_ahead_50 : decode cX7_ahead 50 = .ok (.iload_n 1, 1) := by decide +kernel
theorem dX7_ahead_51 : decode cX7_ahead 51 = .ok (.iadd, 1) := by decide +kernel
theorem dX7_ahead_52 : decode cX7_ahead 52 = .ok (.iaload, 1) := by decide +kernel
theorem dX7_ahead_53 : decode cX7_ahead 53 = .ok (.goto 13, 3) := by decide +kernel
theorem dX7_ahead_56 : decode cX7_ahead 56 = .ok (.aload_n 0, 1) := by decide +kernel
theorem dX7_ahead_57 : decode cX7_ahead 57 = .ok (.getfield 7, 3) := by decide +kernel
theorem dX7_ahead_60 : decode cX7_ahead 60 = .ok (.sipush 288, 3) := by decide +kernel
theorem dX7_ahead_63 : decode cX7_ahead 63 = .ok (.iload_n 1, 1) := by decide +kernel
theorem dX7_ahead_64 : decode cX7_ahead 64 = .ok (.iadd, 1) := by decide +kernel
theorem dX7_ahead_65 : decode cX7_ahead 65 = .ok (.iaload, 1) := by decide +kernel
theorem dX7_ahead_66 : decode cX7_ahead 66 = .ok (.ireturn, 1) := by decide +kernel
theorem dX7_lost_0 : decode cX7_lost 0 = .ok (.aload_n 0, 1) := by decide +kernel
theorem dX7_lost_1 : decode cX7_lost 1 = .ok (.iload_n 1, 1) := by decide +kernel
theorem dX7_lost_2 : decode cX7_lost 2 = .ok (.invokevirtual 176, 3) := by decide +kernel
theorem dX7_lost_5 : decode cX7_lost 5 = .ok (.ifCond .ne 5, 3) := by decide +kernel
theorem dX7_lost_8 : decode cX7_lost 8 = .ok (.iconst (-1), 1) := by decide +kernel
theorem dX7_lost_9 : decode cX7_lost 9 = .ok (.ireturn, 1) := by decide +kernel
theorem dX7_lost_10 : decode cX7_lost 10 = .ok (.aload_n 0, 1) := by decide +kernel
theorem dX7_lost_11 : decode cX7_lost 11 = .ok (.iconst 0, 1) := by decide +kernel
theorem dX7_lost_12 : decode cX7_lost 12 = .ok (.sipush 284, 3) := by decide +kernel
theorem dX7_lost_15 : decode cX7_lost 15 = .ok (.invokevirtual 200, 3) := by decide +kernel
theorem dX7_lost_18 : decode cX7_lost 18 = .ok (.iconst 0, 1) := by decide +kernel
theorem dX7_lost_19 : decode cX7_lost 19 = .ok (.istore_n 2, 1) := by decide +kernel
theorem dX7_lost_20 : decode cX7_lost 20 = .ok (.iload_n 2, 1) := by decide +kernel
theorem dX7_lost_21 : decode cX7_lost 21 = .ok (.bipush 60, 2) := by decide +kernel
theorem dX7_lost_23 : decode cX7_lost 23 = .ok (.if_icmp .gt 39, 3) := by decide +kernel
theorem dX7_lost_26 : decode cX7_lost 26 = .ok (.aload_n 0, 1) := by decide +kernel
theorem dX7_lost_27 : decode cX7_lost 27 = .ok (.getfield 7, 3) := by decide +kernel
theorem dX7_lost_30 : decode cX7_lost 30 = .ok (.sipush 336, 3) := by decide +kernel
theorem dX7_lost_33 : decode cX7_lost 33 = .ok (.iload_n 1, 1) := by decide +kernel
theorem dX7_lost_34 : decode cX7_lost 34 = .ok (.iadd, 1) := by decide +kernel
theorem dX7_lost_35 : decode cX7_lost 35 = .ok (.iaload, 1) := by decide +kernel
theorem dX7_lost_36 : decode cX7_lost 36 = .ok (.iconst 2, 1) := by decide +kernel
theorem dX7_lost_37 : decode cX7_lost 37 = .ok (.if_icmp .ne 5, 3) := by decide +kernel
theorem dX7_lost_40 : decode cX7_lost 40 = .ok (.iload_n 2, 1) := by decide +kernel
theorem dX7_lost_41 : decode cX7_lost 41 = .ok (.ireturn, 1) := by decide +kernel
theorem dX7_lost_42 : decode cX7_lost 42 = .ok (.aload_n 0, 1) := by decide +kernel
theorem dX7_lost_43 : decode cX7_lost 43 = .ok (.sipush 284, 3) := by decide +kernel
theorem dX7_lost_46 : decode cX7_lost 46 = .ok (.aload_n 0, 1) := by decide +kernel
theorem dX7_lost_47 : decode cX7_lost 47 = .ok (.sipush 284, 3) := by decide +kernel
theorem dX7_lost_50 : decode cX7_lost 50 = .ok (.invokevirtual 194, 3) := by decide +kernel
theorem dX7_lost_53 : decode cX7_lost 53 = .ok (.invokevirtual 197, 3) := by decide +kernel
theorem dX7_lost_56 : decode cX7_lost 56 = .ok (.iinc 2 1, 3) := by decide +kernel
theorem dX7_lost_59 : decode cX7_lost 59 = .ok (.goto (-39), 3) := by decide +kernel
theorem dX7_lost_62 : decode cX7_lost 62 = .ok (.bipush (-4), 2) := by decide +kernel
theorem dX7_lost_64 : decode cX7_lost 64 = .ok (.ireturn, 1) := by decide +kernel
theorem dX7_meet_0 : decode cX7_meet 0 = .ok (.aload_n 0, 1) := by decide +kernel
theorem dX7_meet_1 : decode cX7_meet 1 = .ok (.iload_n 1, 1) := by decide +kernel
theorem dX7_meet_2 : decode cX7_meet 2 = .ok (.invokevirtual 167, 3) := by decide +kernel
theorem dX7_meet_5 : decode cX7_meet 5 = .ok (.ifCond .eq 16, 3) := by decide +kernel
theorem dX7_meet_8 : decode cX7_meet 8 = .ok (.aload_n 0, 1) := by decide +kernel
theorem dX7_meet_9 : decode cX7_meet 9 = .ok (.iload_n 2, 1) := by decide +kernel
theorem dX7_meet_10 : decode cX7_meet 10 = .ok (.invokevirtual 167, 3) := by decide +kernel
theorem dX7_meet_13 : decode cX7_meet 13 = .ok (.ifCond .eq 8, 3) := by decide +kernel
theorem dX7_meet_16 : decode cX7_meet 16 = .ok (.iload_n 1, 1) := by decide +kernel
theorem dX7_meet_17 : decode cX7_meet 17 = .ok (.iload_n 2, 1) := by decide +kernel
theorem dX7_meet_18 : decode cX7_meet 18 = .ok (.if_icmp .ne 5, 3) := by decide +kernel
theorem dX7_meet_21 : decode cX7_meet 21 = .ok (.iconst (-1), 1) := by decide +kernel
theorem dX7_meet_22 : decode cX7_meet 22 = .ok (.ireturn, 1) := by decide +kernel
theorem dX7_meet_23 : decode cX7_meet 23 = .ok (.aload_n 0, 1) := by decide +kernel
theorem dX7_meet_24 : decode cX7_meet 24 = .ok (.iconst 0, 1) := by decide +kernel
theorem dX7_meet_25 : decode cX7_meet 25 = .ok (.sipush 284, 3) := by decide +kernel
theorem dX7_meet_28 : decode cX7_meet 28 = .ok (.invokevirtual 200, 3) := by decide +kernel
theorem dX7_meet_31 : decode cX7_meet 31 = .ok (.iconst 0, 1) := by decide +kernel
theorem dX7_meet_32 : decode cX7_meet 32 = .ok (.istore_n 3, 1) := by decide +kernel
theorem dX7_meet_33 : decode cX7_meet 33 = .ok (.iload_n 3, 1) := by decide +kernel
theorem dX7_meet_34 : decode cX7_meet 34 = .ok (.bipush 60, 2) := by decide +kernel
theorem dX7_meet_36 : decode cX7_meet 36 = .ok (.if_icmp .gt 88, 3) := by decide +kernel
theorem dX7_meet_39 : decode cX7_meet 39 = .ok (.aload_n 0, 1) := by decide +kernel
theorem dX7_meet_40 : decode cX7_meet 40 = .ok (.getfield 7, 3) := by decide +kernel
theorem dX7_meet_43 : decode cX7_meet 43 = .ok (.sipush 300, 3) := by decide +kernel
theorem dX7_meet_46 : decode cX7_meet 46 = .ok (.iload_n 1, 1) := by decide +kernel
theorem dX7_meet_47 : decode cX7_meet 47 = .ok (.iadd, 1) := by decide +kernel
theorem dX7_meet_48 : decode cX7_meet 48 = .ok (.iaload, 1) := by decide +kernel
theorem dX7_meet_49 : decode cX7_meet 49 = .ok (.iconst 1, 1) := by decide +kernel
theorem dX7_meet_50 : decode cX7_meet 50 = .ok (.if_icmp .ne 21, 3) := by decide +kernel
theorem dX7_meet_53 : decode cX7_meet 53 = .ok (.aload_n 0, 1) := by decide +kernel
theorem dX7_meet_54 : decode cX7_meet 54 = .ok (.getfield 7, 3) := by decide +kernel
theorem dX7_meet_57 : decode cX7_meet 57 = .ok (.sipush 300, 3) := by decide +kernel
theorem dX7_meet_60 : decode cX7_meet 60 = .ok (.iload_n 2, 1) := by decide +kernel
theorem dX7_meet_61 : decode cX7_meet 61 = .ok (.iadd, 1) := by decide +kernel
theorem dX7_meet_62 : decode cX7_meet 62 = .ok (.iaload, 1) := by decide +kernel
theorem dX7_meet_63 : decode cX7_meet 63 = .ok (.iconst 1, 1) := by decide +kernel
theorem dX7_meet_64 : decode cX7_meet 64 = .ok (.if_icmp .ne 7, 3) := by decide +kernel
theorem dX7_meet_67 : decode cX7_meet 67 = .ok (.iconst 1, 1) := by decide +kernel
theorem dX7_meet_68 : decode cX7_meet 68 = .ok (.goto 4, 3) := by decide +kernel
theorem dX7_meet_71 : decode cX7_meet 71 = .ok (.iconst 0, 1) := by decide +kernel
theorem dX7_meet_72 : decode cX7_meet 72 = .ok (.istore 4, 2) := by decide +kernel
theorem dX7_meet_74 : decode cX7_meet 74 = .ok (.iload 4, 2) := by decide +kernel
theorem dX7_meet_76 : decode cX7_meet 76 = .ok (.ifCond .eq 28, 3) := by decide +kernel
theorem dX7_meet_79 : decode cX7_meet 79 = .ok (.aload_n 0, 1) := by decide +kernel
theorem dX7_meet_80 : decode cX7_meet 80 = .ok (.getfield 7, 3) := by decide +kernel
theorem dX7_meet_83 : decode cX7_meet 83 = .ok (.sipush 296, 3) := by decide +kernel
theorem dX7_meet_86 : decode cX7_meet 86 = .ok (.iload_n 1, 1) := by decide +kernel
theorem dX7_meet_87 : decode cX7_meet 87 = .ok (.iadd, 1) := by decide +kernel
theorem dX7_meet_88 : decode cX7_meet 88 = .ok (.iaload, 1) := by decide +kernel
theorem dX7_meet_89 : decode cX7_meet 89 = .ok (.aload_n 0, 1) := by decide +kernel
theorem dX7_meet_90 : decode cX7_meet 90 = .ok (.getfield 7, 3) := by decide +kernel
theorem dX7_meet_93 : decode cX7_meet 93 = .ok (.sipush 296, 3) := by decide +kernel
theorem dX7_meet_96 : decode cX7_meet 96 = .ok (.iload_n 2, 1) := by decide +kernel
theorem dX7_meet_97 : decode cX7_meet 97 = .ok (.iadd, 1) := by decide +kernel
theorem dX7_meet_98 : decode cX7_meet 98 = .ok (.iaload, 1) := by decide +kernel
theorem dX7_meet_99 : decode cX7_meet 99 = .ok (.if_icmp .ne 5, 3) := by decide +kernel
theorem dX7_meet_102 : decode cX7_meet 102 = .ok (.iload_n 3, 1) := by decide +kernel
theorem dX7_meet_103 : decode cX7_meet 103 = .ok (.ireturn, 1) := by decide +kernel
theorem dX7_meet_104 : decode cX7_meet 104 = .ok (.aload_n 0, 1) := by decide +kernel
theorem dX7_meet_105 : decode cX7_meet 105 = .ok (.sipush 284, 3) := by decide +kernel
theorem dX7_meet_108 : decode cX7_meet 108 = .ok (.aload_n 0, 1) := by decide +kernel
theorem dX7_meet_109 : decode cX7_meet 109 = .ok (.sipush 284, 3) := by decide +kernel
theorem dX7_meet_112 : decode cX7_meet 112 = .ok (.invokevirtual 194, 3) := by decide +kernel
theorem dX7_meet_115 : decode cX7_meet 115 = .ok (.invokevirtual 197, 3) := by decide +kernel
theorem dX7_meet_118 : decode cX7_meet 118 = .ok (.iinc 3 1, 3) := by decide +kernel
theorem dX7_meet_121 : decode cX7_meet 121 = .ok (.goto (-88), 3) := by decide +kernel
theorem dX7_meet_124 : decode cX7_meet 124 = .ok (.bipush (-4), 2) := by decide +kernel
theorem dX7_meet_126 : decode cX7_meet 126 = .ok (.ireturn, 1) := by decide +kernel
theorem dX7_pack_0 : decode cX7_pack 0 = .ok (.aload_n 0, 1) := by decide +kernel
theorem dX7_pack_1 : decode cX7_pack 1 = .ok (.iload_n 1, 1) := by decide +kernel
theorem dX7_pack_2 : decode cX7_pack 2 = .ok (.invokevirtual 167, 3) := by decide +kernel
theorem dX7_pack_5 : decode cX7_pack 5 = .ok (.ifCond .eq 15, 3) := by decide +kernel
theorem dX7_pack_8 : decode cX7_pack 8 = .ok (.iload_n 2, 1) := by decide +kernel
theorem dX7_pack_9 : decode cX7_pack 9 = .ok (.i2l, 1) := by decide +kernel
theorem dX7_pack_10 : decode cX7_pack 10 = .ok (.lconst 0, 1) := by decide +kernel
theorem dX7_pack_11 : decode cX7_pack 11 = .ok (.ldc2_w 211, 3) := by decide +kernel
theorem dX7_pack_14 : decode cX7_pack 14 = .ok (.invokestatic 46, 3) := by decide +kernel
theorem dX7_pack_17 : decode cX7_pack 17 = .ok (.ifCond .ne 5, 3) := by decide +kernel
theorem dX7_pack_20 : decode cX7_pack 20 = .ok (.iconst (-1), 1) := by decide +kernel
theorem dX7_pack_21 : decode cX7_pack 21 = .ok (.ireturn, 1) := by decide +kernel
theorem dX7_pack_22 : decode cX7_pack 22 = .ok (.aload_n 0, 1) := by decide +kernel
theorem dX7_pack_23 : decode cX7_pack 23 = .ok (.iconst 0, 1) := by decide +kernel
theorem dX7_pack_24 : decode cX7_pack 24 = .ok (.iload_n 1, 1) := by decide +kernel
theorem dX7_pack_25 : decode cX7_pack 25 = .ok (.invokevirtual 173, 3) := by decide +kernel
theorem dX7_pack_28 : decode cX7_pack 28 = .ok (.aload_n 0, 1) := by decide +kernel
theorem dX7_pack_29 : decode cX7_pack 29 = .ok (.iconst 0, 1) := by decide +kernel
theorem dX7_pack_30 : decode cX7_pack 30 = .ok (.iconst 2, 1) := by decide +kernel
theorem dX7_pack_31 : decode cX7_pack 31 = .ok (.invokevirtual 164, 3) := by decide +kernel
theorem dX7_pack_34 : decode cX7_pack 34 = .ok (.iconst (-1), 1) := by decide +kernel
theorem dX7_pack_35 : decode cX7_pack 35 = .ok (.ixor, 1) := by decide +kernel
theorem dX7_pack_36 : decode cX7_pack 36 = .ok (.iand, 1) := by decide +kernel
theorem dX7_pack_37 : decode cX7_pack 37 = .ok (.istore_n 3, 1) := by decide +kernel
theorem dX7_pack_38 : decode cX7_pack 38 = .ok (.iconst 0, 1) := by decide +kernel
theorem dX7_pack_39 : decode cX7_pack 39 = .ok (.istore 4, 2) := by decide +kernel
theorem dX7_pack_41 : decode cX7_pack 41 = .ok (.iconst 0, 1) := by decide +kernel
theorem dX7_pack_42 : decode cX7_pack 42 = .ok (.istore 5, 2) := by decide +kernel
theorem dX7_pack_44 : decode cX7_pack 44 = .ok (.iconst 0, 1) := by decide +kernel
theorem dX7_pack_45 : decode cX7_pack 45 = .ok (.istore 6, 2) := by decide +kernel
theorem dX7_pack_47 : decode cX7_pack 47 = .ok (.iconst 0, 1) := by decide +kernel
theorem dX7_pack_48 : decode cX7_pack 48 = .ok (.istore 7, 2) := by decide +kernel
theorem dX7_pack_50 : decode cX7_pack 50 = .ok (.iload 7, 2) := by decide +kernel
theorem dX7_pack_52 : decode cX7_pack 52 = .ok (.iconst 1, 1) := by decide +kernel
theorem dX7_pack_53 : decode cX7_pack 53 = .ok (.aload_n 0, 1) := by decide +kernel
theorem dX7_pack_54 : decode cX7_pack 54 = .ok (.getfield 139, 3) := by decide +kernel
theorem dX7_pack_57 : decode cX7_pack 57 = .ok (.ishl, 1) := by decide +kernel
theorem dX7_pack_58 : decode cX7_pack 58 = .ok (.if_icmp .ge 128, 3) := by decide +kernel
theorem dX7_pack_61 : decode cX7_pack 61 = .ok (.iconst 0, 1) := by decide +kernel
theorem dX7_pack_62 : decode cX7_pack 62 = .ok (.istore 8, 2) := by decide +kernel
theorem dX7_pack_64 : decode cX7_pack 64 = .ok (.iconst 0, 1) := by decide +kernel
theorem dX7_pack_65 : decode cX7_pack 65 = .ok (.istore 9, 2) := by decide +kernel
theorem dX7_pack_67 : decode cX7_pack 67 = .ok (.iconst 0, 1) := by decide +kernel
theorem dX7_pack_68 : decode cX7_pack 68 = .ok (.istore 10, 2) := by decide +kernel
theorem dX7_pack_70 : decode cX7_pack 70 = .ok (.iload 10, 2) := by decide +kernel
theorem dX7_pack_72 : decode cX7_pack 72 = .ok (.aload_n 0, 1) := by decide +kernel
theorem dX7_pack_73 : decode cX7_pack 73 = .ok (.getfield 139, 3) := by decide +kernel
theorem dX7_pack_76 : decode cX7_pack 76 = .ok (.if_icmp .ge 63, 3) := by decide +kernel
theorem dX7_pack_79 : decode cX7_pack 79 = .ok (.iload 8, 2) := by decide +kernel
theorem dX7_pack_81 : decode cX7_pack 81 = .ok (.iload 7, 2) := by decide +kernel
theorem dX7_pack_83 : decode cX7_pack 83 = .ok (.iload 10, 2) := by decide +kernel
theorem dX7_pack_85 : decode cX7_pack 85 = .ok (.ishr, 1) := by decide +kernel
theorem dX7_pack_86 : decode cX7_pack 86 = .ok (.iconst 1, 1) := by decide +kernel
theorem dX7_pack_87 : decode cX7_pack 87 = .ok (.iand, 1) := by decide +kernel
theorem dX7_pack_88 : decode cX7_pack 88 = .ok (.iconst 1, 1) := by decide +kernel
theorem dX7_pack_89 : decode cX7_pack 89 = .ok (.if_icmp .ne 13, 3) := by decide +kernel
theorem dX7_pack_92 : decode cX7_pack 92 = .ok (.aload_n 0, 1) := by decide +kernel
theorem dX7_pack_93 : decode cX7_pack 93 = .ok (.iconst 0, 1) := by decide +kernel
theorem dX7_pack_94 : decode cX7_pack 94 = .ok (.iload 10, 2) := by decide +kernel
theorem dX7_pack_96 : decode cX7_pack 96 = .ok (.invokevirtual 145, 3) := by decide +kernel
theorem dX7_pack_99 : decode cX7_pack 99 = .ok (.goto 4, 3) := by decide +kernel
theorem dX7_pack_102 : decode cX7_pack 102 = .ok (.iconst 0, 1) := by decide +kernel
theorem dX7_pack_103 : decode cX7_pack 103 = .ok (.iadd, 1) := by decide +kernel
theorem dX7_pack_104 : decode cX7_pack 104 = .ok (.istore 8, 2) := by decide +kernel
theorem dX7_pack_106 : decode cX7_pack 106 = .ok (.iload 9, 2) := by decide +kernel
theorem dX7_pack_108 : decode cX7_pack 108 = .ok (.iload 7, 2) := by decide +kernel
theorem dX7_pack_110 : decode cX7_pack 110 = .ok (.iload 10, 2) := by decide +kernel
theorem dX7_pack_112 : decode cX7_pack 112 = .ok (.ishr, 1) := by decide +kernel
theorem dX7_pack_113 : decode cX7_pack 113 = .ok (.iconst 1, 1) := by decide +kernel
theorem dX7_pack_114 : decode cX7_pack 114 = .ok (.iand, 1) := by decide +kernel
theorem dX7_pack_115 : decode cX7_pack 115 = .ok (.iconst 1, 1) := by decide +kernel
theorem dX7_pack_116 : decode cX7_pack 116 = .ok (.if_icmp .ne 13, 3) := by decide +kernel
theorem dX7_pack_119 : decode cX7_pack 119 = .ok (.aload_n 0, 1) := by decide +kernel
theorem dX7_pack_120 : decode cX7_pack 120 = .ok (.iconst 0, 1) := by decide +kernel
theorem dX7_pack_121 : decode cX7_pack 121 = .ok (.iload 10, 2) := by decide +kernel
theorem dX7_pack_123 : decode cX7_pack 123 = .ok (.invokevirtual 148, 3) := by decide +kernel
theorem dX7_pack_126 : decode cX7_pack 126 = .ok (.goto 4, 3) := by decide +kernel
theorem dX7_pack_129 : decode cX7_pack 129 = .ok (.iconst 0, 1) := by decide +kernel
theorem dX7_pack_130 : decode cX7_pack 130 = .ok (.iadd, 1) := by decide +kernel
theorem dX7_pack_131 : decode cX7_pack 131 = .ok (.istore 9, 2) := by decide +kernel
theorem dX7_pack_133 : decode cX7_pack 133 = .ok (.iinc 10 1, 3) := by decide +kernel
theorem dX7_pack_136 : decode cX7_pack 136 = .ok (.goto (-66), 3) := by decide +kernel
theorem dX7_pack_139 : decode cX7_pack 139 = .ok (.iload 7, 2) := by decide +kernel
theorem dX7_pack_141 : decode cX7_pack 141 = .ok (.iload_n 3, 1) := by decide +kernel
theorem dX7_pack_142 : decode cX7_pack 142 = .ok (.iand, 1) := by decide +kernel
theorem dX7_pack_143 : decode cX7_pack 143 = .ok (.iload 7, 2) := by decide +kernel
theorem dX7_pack_145 : decode cX7_pack 145 = .ok (.if_icmp .ne 35, 3) := by decide +kernel
theorem dX7_pack_148 : decode cX7_pack 148 = .ok (.iload 8, 2) := by decide +kernel
theorem dX7_pack_150 : decode cX7_pack 150 = .ok (.aload_n 0, 1) := by decide +kernel
theorem dX7_pack_151 : decode cX7_pack 151 = .ok (.getfield 7, 3) := by decide +kernel
theorem dX7_pack_154 : decode cX7_pack 154 = .ok (.iconst 4, 1) := by decide +kernel
theorem dX7_pack_155 : decode cX7_pack 155 = .ok (.iload_n 1, 1) := by decide +kernel
theorem dX7_pack_156 : decode cX7_pack 156 = .ok (.iadd, 1) := by decide +kernel
theorem dX7_pack_157 : decode cX7_pack 157 = .ok (.iaload, 1) := by decide +kernel
theorem dX7_pack_158 : decode cX7_pack 158 = .ok (.if_icmp .gt 22, 3) := by decide +kernel
theorem dX7_pack_161 : decode cX7_pack 161 = .ok (.iload 9, 2) := by decide +kernel
theorem dX7_pack_163 : decode cX7_pack 163 = .ok (.iload 5, 2) := by decide +kernel
theorem dX7_pack_165 : decode cX7_pack 165 = .ok (.if_icmp .le 15, 3) := by decide +kernel
theorem dX7_pack_168 : decode cX7_pack 168 = .ok (.iload 7, 2) := by decide +kernel
theorem dX7_pack_170 : decode cX7_pack 170 = .ok (.istore 4, 2) := by decide +kernel
theorem dX7_pack_172 : decode cX7_pack 172 = .ok (.iload 9, 2) := by decide +kernel
theorem dX7_pack_174 : decode cX7_pack 174 = .ok (.istore 5, 2) := by decide +kernel
theorem dX7_pack_176 : decode cX7_pack 176 = .ok (.iload 8, 2) := by decide +kernel
theorem dX7_pack_178 : decode cX7_pack 178 = .ok (.istore 6, 2) := by decide +kernel
theorem dX7_pack_180 : decode cX7_pack 180 = .ok (.iinc 7 1, 3) := by decide +kernel
theorem dX7_pack_183 : decode cX7_pack 183 = .ok (.goto (-133), 3) := by decide +kernel
theorem dX7_pack_186 : decode cX7_pack 186 = .ok (.iload_n 2, 1) := by decide +kernel
theorem dX7_pack_187 : decode cX7_pack 187 = .ok (.ifCond .ne 8, 3) := by decide +kernel
theorem dX7_pack_190 : decode cX7_pack 190 = .ok (.iload 4, 2) := by decide +kernel
theorem dX7_pack_192 : decode cX7_pack 192 = .ok (.goto 15, 3) := by decide +kernel
theorem dX7_pack_195 : decode cX7_pack 195 = .ok (.iload_n 2, 1) := by decide +kernel
theorem dX7_pack_196 : decode cX7_pack 196 = .ok (.iconst 1, 1) := by decide +kernel
theorem dX7_pack_197 : decode cX7_pack 197 = .ok (.if_icmp .ne 8, 3) := by decide +kernel
theorem dX7_pack_200 : decode cX7_pack 200 = .ok (.iload 5, 2) := by decide +kernel
theorem dX7_pack_202 : decode cX7_pack 202 = .ok (.goto 5, 3) := by decide +kernel
theorem dX7_pack_205 : decode cX7_pack 205 = .ok (.iload 6, 2) := by decide +kernel
theorem dX7_pack_207 : decode cX7_pack 207 = .ok (.ireturn, 1) := by decide +kernel
theorem dX7_need_0 : decode cX7_need 0 = .ok (.aload_n 0, 1) := by decide +kernel
theorem dX7_need_1 : decode cX7_need 1 = .ok (.iload_n 1, 1) := by decide +kernel
theorem dX7_need_2 : decode cX7_need 2 = .ok (.invokevirtual 167, 3) := by decide +kernel
theorem dX7_need_5 : decode cX7_need 5 = .ok (.ifCond .eq 15, 3) := by decide +kernel
theorem dX7_need_8 : decode cX7_need 8 = .ok (.iload_n 2, 1) := by decide +kernel
theorem dX7_need_9 : decode cX7_need 9 = .ok (.i2l, 1) := by decide +kernel
theorem dX7_need_10 : decode cX7_need 10 = .ok (.lconst 0, 1) := by decide +kernel
theorem dX7_need_11 : decode cX7_need 11 = .ok (.ldc2_w 206, 3) := by decide +kernel
theorem dX7_need_14 : decode cX7_need 14 = .ok (.invokestatic 46, 3) := by decide +kernel
theorem dX7_need_17 : decode cX7_need 17 = .ok (.ifCond .ne 5, 3) := by decide +kernel
theorem dX7_need_20 : decode cX7_need 20 = .ok (.iconst (-1), 1) := by decide +kernel
theorem dX7_need_21 : decode cX7_need 21 = .ok (.ireturn, 1) := by decide +kernel
theorem dX7_need_22 : decode cX7_need 22 = .ok (.aload_n 0, 1) := by decide +kernel
theorem dX7_need_23 : decode cX7_need 23 = .ok (.iconst 0, 1) := by decide +kernel
theorem dX7_need_24 : decode cX7_need 24 = .ok (.iload_n 1, 1) := by decide +kernel
theorem dX7_need_25 : decode cX7_need 25 = .ok (.invokevirtual 173, 3) := by decide +kernel
theorem dX7_need_28 : decode cX7_need 28 = .ok (.aload_n 0, 1) := by decide +kernel
theorem dX7_need_29 : decode cX7_need 29 = .ok (.iconst 0, 1) := by decide +kernel
theorem dX7_need_30 : decode cX7_need 30 = .ok (.iconst 2, 1) := by decide +kernel
theorem dX7_need_31 : decode cX7_need 31 = .ok (.invokevirtual 164, 3) := by decide +kernel
theorem dX7_need_34 : decode cX7_need 34 = .ok (.iconst (-1), 1) := by decide +kernel
theorem dX7_need_35 : decode cX7_need 35 = .ok (.ixor, 1) := by decide +kernel
theorem dX7_need_36 : decode cX7_need 36 = .ok (.iand, 1) := by decide +kernel
theorem dX7_need_37 : decode cX7_need 37 = .ok (.istore_n 3, 1) := by decide +kernel
theorem dX7_need_38 : decode cX7_need 38 = .ok (.iconst 0, 1) := by decide +kernel
theorem dX7_need_39 : decode cX7_need 39 = .ok (.istore 4, 2) := by decide +kernel
theorem dX7_need_41 : decode cX7_need 41 = .ok (.iload 4, 2) := by decide +kernel
theorem dX7_need_43 : decode cX7_need 43 = .ok (.bipush 40, 2) := by decide +kernel
theorem dX7_need_45 : decode cX7_need 45 = .ok (.if_icmp .gt 108, 3) := by decide +kernel
theorem dX7_need_48 : decode cX7_need 48 = .ok (.aload_n 0, 1) := by decide +kernel
theorem dX7_need_49 : decode cX7_need 49 = .ok (.iconst 0, 1) := by decide +kernel
theorem dX7_need_50 : decode cX7_need 50 = .ok (.sipush 355, 3) := by decide +kernel
theorem dX7_need_53 : decode cX7_need 53 = .ok (.invokevirtual 200, 3) := by decide +kernel
theorem dX7_need_56 : decode cX7_need 56 = .ok (.aload_n 0, 1) := by decide +kernel
theorem dX7_need_57 : decode cX7_need 57 = .ok (.getfield 7, 3) := by decide +kernel
theorem dX7_need_60 : decode cX7_need 60 = .ok (.sipush 359, 3) := by decide +kernel
theorem dX7_need_63 : decode cX7_need 63 = .ok (.iload_n 1, 1) := by decide +kernel
theorem dX7_need_64 : decode cX7_need 64 = .ok (.iadd, 1) := by decide +kernel
theorem dX7_need_65 : decode cX7_need 65 = .ok (.iload 4, 2) := by decide +kernel
theorem dX7_need_67 : decode cX7_need 67 = .ok (.iastore, 1) := by decide +kernel
theorem dX7_need_68 : decode cX7_need 68 = .ok (.iconst 0, 1) := by decide +kernel
theorem dX7_need_69 : decode cX7_need 69 = .ok (.istore 5, 2) := by decide +kernel
theorem dX7_need_71 : decode cX7_need 71 = .ok (.iload 5, 2) := by decide +kernel
theorem dX7_need_73 : decode cX7_need 73 = .ok (.aload_n 0, 1) := by decide +kernel
theorem dX7_need_74 : decode cX7_need 74 = .ok (.getfield 139, 3) := by decide +kernel
theorem dX7_need_77 : decode cX7_need 77 = .ok (.if_icmp .ge 45, 3) := by decide +kernel
theorem dX7_need_80 : decode cX7_need 80 = .ok (.aload_n 0, 1) := by decide +kernel
theorem dX7_need_81 : decode cX7_need 81 = .ok (.getfield 7, 3) := by decide +kernel
theorem dX7_need_84 : decode cX7_need 84 = .ok (.sipush 407, 3) := by decide +kernel
theorem dX7_need_87 : decode cX7_need 87 = .ok (.iload 5, 2) := by decide +kernel
theorem dX7_need_89 : decode cX7_need 89 = .ok (.iadd, 1) := by decide +kernel
theorem dX7_need_90 : decode cX7_need 90 = .ok (.iload_n 3, 1) := by decide +kernel
theorem dX7_need_91 : decode cX7_need 91 = .ok (.iload 5, 2) := by decide +kernel
theorem dX7_need_93 : decode cX7_need 93 = .ok (.ishr, 1) := by decide +kernel
theorem dX7_need_94 : decode cX7_need 94 = .ok (.iconst 1, 1) := by decide +kernel
theorem dX7_need_95 : decode cX7_need 95 = .ok (.iand, 1) := by decide +kernel
theorem dX7_need_96 : decode cX7_need 96 = .ok (.iconst 1, 1) := by decide +kernel
theorem dX7_need_97 : decode cX7_need 97 = .ok (.if_icmp .ne 7, 3) := by decide +kernel
theorem dX7_need_100 : decode cX7_need 100 = .ok (.iconst 1, 1) := by decide +kernel
theorem dX7_need_101 : decode cX7_need 101 = .ok (.goto 14, 3) := by decide +kernel
theorem dX7_need_104 : decode cX7_need 104 = .ok (.aload_n 0, 1) := by decide +kernel
theorem dX7_need_105 : decode cX7_need 105 = .ok (.getfield 7, 3) := by decide +kernel
theorem dX7_need_108 : decode cX7_need 108 = .ok (.sipush 407, 3) := by decide +kernel
theorem dX7_need_111 : decode cX7_need 111 = .ok (.iload 5, 2) := by decide +kernel
theorem dX7_need_113 : decode cX7_need 113 = .ok (.iadd, 1) := by decide +kernel
theorem dX7_need_114 : decode cX7_need 114 = .ok (.iaload, 1) := by decide +kernel
theorem dX7_need_115 : decode cX7_need 115 = .ok (.iastore, 1) := by decide +kernel
theorem dX7_need_116 : decode cX7_need 116 = .ok (.iinc 5 1, 3) := by decide +kernel
theorem dX7_need_119 : decode cX7_need 119 = .ok (.goto (-48), 3) := by decide +kernel
theorem dX7_need_122 : decode cX7_need 122 = .ok (.aload_n 0, 1) := by decide +kernel
theorem dX7_need_123 : decode cX7_need 123 = .ok (.sipush 355, 3) := by decide +kernel
theorem dX7_need_126 : decode cX7_need 126 = .ok (.iload_n 2, 1) := by decide +kernel
theorem dX7_need_127 : decode cX7_need 127 = .ok (.invokevirtual 208, 3) := by decide +kernel
theorem dX7_need_130 : decode cX7_need 130 = .ok (.pop, 1) := by decide +kernel
theorem dX7_need_131 : decode cX7_need 131 = .ok (.aload_n 0, 1) := by decide +kernel
theorem dX7_need_132 : decode cX7_need 132 = .ok (.sipush 284, 3) := by decide +kernel
theorem dX7_need_135 : decode cX7_need 135 = .ok (.iconst 2, 1) := by decide +kernel
theorem dX7_need_136 : decode cX7_need 136 = .ok (.invokevirtual 164, 3) := by decide +kernel
theorem dX7_need_139 : decode cX7_need 139 = .ok (.iload_n 3, 1) := by decide +kernel
theorem dX7_need_140 : decode cX7_need 140 = .ok (.iand, 1) := by decide +kernel
theorem dX7_need_141 : decode cX7_need 141 = .ok (.ifCond .ne 6, 3) := by decide +kernel
theorem dX7_need_144 : decode cX7_need 144 = .ok (.iload 4, 2) := by decide +kernel
theorem dX7_need_146 : decode cX7_need 146 = .ok (.ireturn, 1) := by decide +kernel
theorem dX7_need_147 : decode cX7_need 147 = .ok (.iinc 4 1, 3) := by decide +kernel
theorem dX7_need_150 : decode cX7_need 150 = .ok (.goto (-109), 3) := by decide +kernel
theorem dX7_need_153 : decode cX7_need 153 = .ok (.bipush (-4), 2) := by decide +kernel
theorem dX7_need_155 : decode cX7_need 155 = .ok (.ireturn, 1) := by decide +kernel
theorem dX7_high_0 : decode cX7_high 0 = .ok (.aload_n 0, 1) := by decide +kernel
theorem dX7_high_1 : decode cX7_high 1 = .ok (.iload_n 1, 1) := by decide +kernel
theorem dX7_high_2 : decode cX7_high 2 = .ok (.invokevirtual 167, 3) := by decide +kernel
theorem dX7_high_5 : decode cX7_high 5 = .ok (.ifCond .eq 15, 3) := by decide +kernel
theorem dX7_high_8 : decode cX7_high 8 = .ok (.iload_n 2, 1) := by decide +kernel
theorem dX7_high_9 : decode cX7_high 9 = .ok (.i2l, 1) := by decide +kernel
theorem dX7_high_10 : decode cX7_high 10 = .ok (.lconst 0, 1) := by decide +kernel
theorem dX7_high_11 : decode cX7_high 11 = .ok (.ldc2_w 206, 3) := by decide +kernel
theorem dX7_high_14 : decode cX7_high 14 = .ok (.invokestatic 46, 3) := by decide +kernel
theorem dX7_high_17 : decode cX7_high 17 = .ok (.ifCond .ne 5, 3) := by decide +kernel
theorem dX7_high_20 : decode cX7_high 20 = .ok (.iconst (-1), 1) := by decide +kernel
theorem dX7_high_21 : decode cX7_high 21 = .ok (.ireturn, 1) := by decide +kernel
theorem dX7_high_22 : decode cX7_high 22 = .ok (.aload_n 0, 1) := by decide +kernel
theorem dX7_high_23 : decode cX7_high 23 = .ok (.iconst 0, 1) := by decide +kernel
theorem dX7_high_24 : decode cX7_high 24 = .ok (.iload_n 1, 1) := by decide +kernel
theorem dX7_high_25 : decode cX7_high 25 = .ok (.invokevirtual 173, 3) := by decide +kernel
theorem dX7_high_28 : decode cX7_high 28 = .ok (.aload_n 0, 1) := by decide +kernel
theorem dX7_high_29 : decode cX7_high 29 = .ok (.iconst 0, 1) := by decide +kernel
theorem dX7_high_30 : decode cX7_high 30 = .ok (.iconst 2, 1) := by decide +kernel
theorem dX7_high_31 : decode cX7_high 31 = .ok (.invokevirtual 164, 3) := by decide +kernel
theorem dX7_high_34 : decode cX7_high 34 = .ok (.iconst (-1), 1) := by decide +kernel
theorem dX7_high_35 : decode cX7_high 35 = .ok (.ixor, 1) := by decide +kernel
theorem dX7_high_36 : decode cX7_high 36 = .ok (.iand, 1) := by decide +kernel
theorem dX7_high_37 : decode cX7_high 37 = .ok (.istore_n 3, 1) := by decide +kernel
theorem dX7_high_38 : decode cX7_high 38 = .ok (.iconst 0, 1) := by decide +kernel
theorem dX7_high_39 : decode cX7_high 39 = .ok (.istore 4, 2) := by decide +kernel
theorem dX7_high_41 : decode cX7_high 41 = .ok (.iload 4, 2) := by decide +kernel
theorem dX7_high_43 : decode cX7_high 43 = .ok (.bipush 20, 2) := by decide +kernel
theorem dX7_high_45 : decode cX7_high 45 = .ok (.if_icmp .gt 54, 3) := by decide +kernel
theorem dX7_high_48 : decode cX7_high 48 = .ok (.aload_n 0, 1) := by decide +kernel
theorem dX7_high_49 : decode cX7_high 49 = .ok (.iconst 0, 1) := by decide +kernel
theorem dX7_high_50 : decode cX7_high 50 = .ok (.sipush 355, 3) := by decide +kernel
theorem dX7_high_53 : decode cX7_high 53 = .ok (.invokevirtual 200, 3) := by decide +kernel
theorem dX7_high_56 : decode cX7_high 56 = .ok (.aload_n 0, 1) := by decide +kernel
theorem dX7_high_57 : decode cX7_high 57 = .ok (.getfield 7, 3) := by decide +kernel
theorem dX7_high_60 : decode cX7_high 60 = .ok (.sipush 355, 3) := by decide +kernel
theorem dX7_high_63 : decode cX7_high 63 = .ok (.iload_n 1, 1) := by decide +kernel
theorem dX7_high_64 : decode cX7_high 64 = .ok (.iadd, 1) := by decide +kernel
theorem dX7_high_65 : decode cX7_high 65 = .ok (.iload 4, 2) := by decide +kernel
theorem dX7_high_67 : decode cX7_high 67 = .ok (.iastore, 1) := by decide +kernel
theorem dX7_high_68 : decode cX7_high 68 = .ok (.aload_n 0, 1) := by decide +kernel
theorem dX7_high_69 : decode cX7_high 69 = .ok (.sipush 355, 3) := by decide +kernel
theorem dX7_high_72 : decode cX7_high 72 = .ok (.iload_n 2, 1) := by decide +kernel
theorem dX7_high_73 : decode cX7_high 73 = .ok (.invokevirtual 208, 3) := by decide +kernel
theorem dX7_high_76 : decode cX7_high 76 = .ok (.pop, 1) := by decide +kernel
theorem dX7_high_77 : decode cX7_high 77 = .ok (.aload_n 0, 1) := by decide +kernel
theorem dX7_high_78 : decode cX7_high 78 = .ok (.sipush 284, 3) := by decide +kernel
theorem dX7_high_81 : decode cX7_high 81 = .ok (.iconst 2, 1) := by decide +kernel
theorem dX7_high_82 : decode cX7_high 82 = .ok (.invokevirtual 164, 3) := by decide +kernel
theorem dX7_high_85 : decode cX7_high 85 = .ok (.iload_n 3, 1) := by decide +kernel
theorem dX7_high_86 : decode cX7_high 86 = .ok (.iand, 1) := by decide +kernel
theorem dX7_high_87 : decode cX7_high 87 = .ok (.ifCond .ne 6, 3) := by decide +kernel
theorem dX7_high_90 : decode cX7_high 90 = .ok (.iload 4, 2) := by decide +kernel
theorem dX7_high_92 : decode cX7_high 92 = .ok (.ireturn, 1) := by decide +kernel
theorem dX7_high_93 : decode cX7_high 93 = .ok (.iinc 4 1, 3) := by decide +kernel
theorem dX7_high_96 : decode cX7_high 96 = .ok (.goto (-55), 3) := by decide +kernel
theorem dX7_high_99 : decode cX7_high 99 = .ok (.bipush (-4), 2) := by decide +kernel
theorem dX7_high_101 : decode cX7_high 101 = .ok (.ireturn, 1) := by decide +kernel
theorem dX7_leak_0 : decode cX7_leak 0 = .ok (.aload_n 0, 1) := by decide +kernel
theorem dX7_leak_1 : decode cX7_leak 1 = .ok (.iload_n 1, 1) := by decide +kernel
theorem dX7_leak_2 : decode cX7_leak 2 = .ok (.invokevirtual 167, 3) := by decide +kernel
theorem dX7_leak_5 : decode cX7_leak 5 = .ok (.ifCond .eq 15, 3) := by decide +kernel
theorem dX7_leak_8 : decode cX7_leak 8 = .ok (.iload_n 2, 1) := by decide +kernel
theorem dX7_leak_9 : decode cX7_leak 9 = .ok (.i2l, 1) := by decide +kernel
theorem dX7_leak_10 : decode cX7_leak 10 = .ok (.lconst 0, 1) := by decide +kernel
theorem dX7_leak_11 : decode cX7_leak 11 = .ok (.ldc2_w 206, 3) := by decide +kernel
theorem dX7_leak_14 : decode cX7_leak 14 = .ok (.invokestatic 46, 3) := by decide +kernel
theorem dX7_leak_17 : decode cX7_leak 17 = .ok (.ifCond .ne 5, 3) := by decide +kernel
theorem dX7_leak_20 : decode cX7_leak 20 = .ok (.iconst (-1), 1) := by decide +kernel
theorem dX7_leak_21 : decode cX7_leak 21 = .ok (.ireturn, 1) := by decide +kernel
theorem dX7_leak_22 : decode cX7_leak 22 = .ok (.aload_n 0, 1) := by decide +kernel
theorem dX7_leak_23 : decode cX7_leak 23 = .ok (.iconst 0, 1) := by decide +kernel
theorem dX7_leak_24 : decode cX7_leak 24 = .ok (.iload_n 2, 1) := by decide +kernel
theorem dX7_leak_25 : decode cX7_leak 25 = .ok (.invokevirtual 208, 3) := by decide +kernel
theorem dX7_leak_28 : decode cX7_leak 28 = .ok (.istore_n 3, 1) := by decide +kernel
theorem dX7_leak_29 : decode cX7_leak 29 = .ok (.iconst 0, 1) := by decide +kernel
theorem dX7_leak_30 : decode cX7_leak 30 = .ok (.istore 4, 2) := by decide +kernel
theorem dX7_leak_32 : decode cX7_leak 32 = .ok (.iconst 0, 1) := by decide +kernel
theorem dX7_leak_33 : decode cX7_leak 33 = .ok (.istore 5, 2) := by decide +kernel
theorem dX7_leak_35 : decode cX7_leak 35 = .ok (.iload 5, 2) := by decide +kernel
theorem dX7_leak_37 : decode cX7_leak 37 = .ok (.iconst 3, 1) := by decide +kernel
theorem dX7_leak_38 : decode cX7_leak 38 = .ok (.if_icmp .gt 50, 3) := by decide +kernel
theorem dX7_leak_41 : decode cX7_leak 41 = .ok (.aload_n 0, 1) := by decide +kernel
theorem dX7_leak_42 : decode cX7_leak 42 = .ok (.iconst 0, 1) := by decide +kernel
theorem dX7_leak_43 : decode cX7_leak 43 = .ok (.sipush 355, 3) := by decide +kernel
theorem dX7_leak_46 : decode cX7_leak 46 = .ok (.invokevirtual 200, 3) := by decide +kernel
theorem dX7_leak_49 : decode cX7_leak 49 = .ok (.aload_n 0, 1) := by decide +kernel
theorem dX7_leak_50 : decode cX7_leak 50 = .ok (.getfield 7, 3) := by decide +kernel
theorem dX7_leak_53 : decode cX7_leak 53 = .ok (.sipush 363, 3) := by decide +kernel
theorem dX7_leak_56 : decode cX7_leak 56 = .ok (.iload_n 1, 1) := by decide +kernel
theorem dX7_leak_57 : decode cX7_leak 57 = .ok (.iadd, 1) := by decide +kernel
theorem dX7_leak_58 : decode cX7_leak 58 = .ok (.iload 5, 2) := by decide +kernel
theorem dX7_leak_60 : decode cX7_leak 60 = .ok (.iastore, 1) := by decide +kernel
theorem dX7_leak_61 : decode cX7_leak 61 = .ok (.aload_n 0, 1) := by decide +kernel
theorem dX7_leak_62 : decode cX7_leak 62 = .ok (.sipush 355, 3) := by decide +kernel
theorem dX7_leak_65 : decode cX7_leak 65 = .ok (.iload_n 2, 1) := by decide +kernel
theorem dX7_leak_66 : decode cX7_leak 66 = .ok (.invokevirtual 208, 3) := by decide +kernel
theorem dX7_leak_69 : decode cX7_leak 69 = .ok (.iload_n 3, 1) := by decide +kernel
theorem dX7_leak_70 : decode cX7_leak 70 = .ok (.if_icmp .gt 8, 3) := by decide +kernel
theorem dX7_leak_73 : decode cX7_leak 73 = .ok (.iload 5, 2) := by decide +kernel
theorem dX7_leak_75 : decode cX7_leak 75 = .ok (.goto 5, 3) := by decide +kernel
theorem dX7_leak_78 : decode cX7_leak 78 = .ok (.iload 4, 2) := by decide +kernel
theorem dX7_leak_80 : decode cX7_leak 80 = .ok (.istore 4, 2) := by decide +kernel
theorem dX7_leak_82 : decode cX7_leak 82 = .ok (.iinc 5 1, 3) := by decide +kernel
theorem dX7_leak_85 : decode cX7_leak 85 = .ok (.goto (-50), 3) := by decide +kernel
theorem dX7_leak_88 : decode cX7_leak 88 = .ok (.iload 4, 2) := by decide +kernel
theorem dX7_leak_90 : decode cX7_leak 90 = .ok (.ireturn, 1) := by decide +kernel
theorem dX7_swap_0 : decode cX7_swap 0 = .ok (.iload_n 1, 1) := by decide +kernel
theorem dX7_swap_1 : decode cX7_swap 1 = .ok (.i2l, 1) := by decide +kernel
theorem dX7_swap_2 : decode cX7_swap 2 = .ok (.lconst 0, 1) := by decide +kernel
theorem dX7_swap_3 : decode cX7_swap 3 = .ok (.ldc2_w 206, 3) := by decide +kernel
theorem dX7_swap_6 : decode cX7_swap 6 = .ok (.invokestatic 46, 3) := by decide +kernel
theorem dX7_swap_9 : decode cX7_swap 9 = .ok (.ifCond .eq 13, 3) := by decide +kernel
theorem dX7_swap_12 : decode cX7_swap 12 = .ok (.iload_n 2, 1) := by decide +kernel
theorem dX7_swap_13 : decode cX7_swap 13 = .ok (.i2l, 1) := by decide +kernel
theorem dX7_swap_14 : decode cX7_swap 14 = .ok (.lconst 0, 1) := by decide +kernel
theorem dX7_swap_15 : decode cX7_swap 15 = .ok (.lconst 1, 1) := by decide +kernel
theorem dX7_swap_16 : decode cX7_swap 16 = .ok (.invokestatic 46, 3) := by decide +kernel
theorem dX7_swap_19 : decode cX7_swap 19 = .ok (.ifCond .ne 5, 3) := by decide +kernel
theorem dX7_swap_22 : decode cX7_swap 22 = .ok (.iconst (-1), 1) := by decide +kernel
theorem dX7_swap_23 : decode cX7_swap 23 = .ok (.ireturn, 1) := by decide +kernel
theorem dX7_swap_24 : decode cX7_swap 24 = .ok (.aload_n 0, 1) := by decide +kernel
theorem dX7_swap_25 : decode cX7_swap 25 = .ok (.iconst 0, 1) := by decide +kernel
theorem dX7_swap_26 : decode cX7_swap 26 = .ok (.iload_n 1, 1) := by decide +kernel
theorem dX7_swap_27 : decode cX7_swap 27 = .ok (.invokevirtual 208, 3) := by decide +kernel
theorem dX7_swap_30 : decode cX7_swap 30 = .ok (.istore_n 3, 1) := by decide +kernel
theorem dX7_swap_31 : decode cX7_swap 31 = .ok (.bipush (-4), 2) := by decide +kernel
theorem dX7_swap_33 : decode cX7_swap 33 = .ok (.istore 4, 2) := by decide +kernel
theorem dX7_swap_35 : decode cX7_swap 35 = .ok (.iconst 0, 1) := by decide +kernel
theorem dX7_swap_36 : decode cX7_swap 36 = .ok (.istore 5, 2) := by decide +kernel
theorem dX7_swap_38 : decode cX7_swap 38 = .ok (.iload 5, 2) := by decide +kernel
theorem dX7_swap_40 : decode cX7_swap 40 = .ok (.aload_n 0, 1) := by decide +kernel
theorem dX7_swap_41 : decode cX7_swap 41 = .ok (.getfield 139, 3) := by decide +kernel
theorem dX7_swap_44 : decode cX7_swap 44 = .ok (.if_icmp .ge 175, 3) := by decide +kernel
theorem dX7_swap_47 : decode cX7_swap 47 = .ok (.iload 5, 2) := by decide +kernel
theorem dX7_swap_49 : decode cX7_swap 49 = .ok (.iconst 1, 1) := by decide +kernel
theorem dX7_swap_50 : decode cX7_swap 50 = .ok (.iadd, 1) := by decide +kernel
theorem dX7_swap_51 : decode cX7_swap 51 = .ok (.istore 6, 2) := by decide +kernel
theorem dX7_swap_53 : decode cX7_swap 53 = .ok (.iload 6, 2) := by decide +kernel
theorem dX7_swap_55 : decode cX7_swap 55 = .ok (.aload_n 0, 1) := by decide +kernel
theorem dX7_swap_56 : decode cX7_swap 56 = .ok (.getfield 139, 3) := by decide +kernel
theorem dX7_swap_59 : decode cX7_swap 59 = .ok (.if_icmp .ge 154, 3) := by decide +kernel
theorem dX7_swap_62 : decode cX7_swap 62 = .ok (.aload_n 0, 1) := by decide +kernel
theorem dX7_swap_63 : decode cX7_swap 63 = .ok (.getfield 7, 3) := by decide +kernel
theorem dX7_swap_66 : decode cX7_swap 66 = .ok (.bipush 52, 2) := by decide +kernel
theorem dX7_swap_68 : decode cX7_swap 68 = .ok (.iload 5, 2) := by decide +kernel
theorem dX7_swap_70 : decode cX7_swap 70 = .ok (.iadd, 1) := by decide +kernel
theorem dX7_swap_71 : decode cX7_swap 71 = .ok (.iaload, 1) := by decide +kernel
theorem dX7_swap_72 : decode cX7_swap 72 = .ok (.iconst 2, 1) := by decide +kernel
theorem dX7_swap_73 : decode cX7_swap 73 = .ok (.if_icmp .eq 134, 3) := by decide +kernel
theorem dX7_swap_76 : decode cX7_swap 76 = .ok (.aload_n 0, 1) := by decide +kernel
theorem dX7_swap_77 : decode cX7_swap 77 = .ok (.getfield 7, 3) := by decide +kernel
theorem dX7_swap_80 : decode cX7_swap 80 = .ok (.bipush 52, 2) := by decide +kernel
theorem dX7_swap_82 : decode cX7_swap 82 = .ok (.iload 6, 2) := by decide +kernel
theorem dX7_swap_84 : decode cX7_swap 84 = .ok (.iadd, 1) := by decide +kernel
theorem dX7_swap_85 : decode cX7_swap 85 = .ok (.iaload, 1) := by decide +kernel
theorem dX7_swap_86 : decode cX7_swap 86 = .ok (.iconst 2, 1) := by decide +kernel
theorem dX7_swap_87 : decode cX7_swap 87 = .ok (.if_icmp .eq 120, 3) := by decide +kernel
theorem dX7_swap_90 : decode cX7_swap 90 = .ok (.aload_n 0, 1) := by decide +kernel
theorem dX7_swap_91 : decode cX7_swap 91 = .ok (.getfield 7, 3) := by decide +kernel
theorem dX7_swap_94 : decode cX7_swap 94 = .ok (.bipush 28, 2) := by decide +kernel
theorem dX7_swap_96 : decode cX7_swap 96 = .ok (.iload 5, 2) := by decide +kernel
theorem dX7_swap_98 : decode cX7_swap 98 = .ok (.iadd, 1) := by decide +kernel
theorem dX7_swap_99 : decode cX7_swap 99 = .ok (.iaload, 1) := by decide +kernel
theorem dX7_swap_100 : decode cX7_swap 100 = .ok (.aload_n 0, 1) := by decide +kernel
theorem dX7_swap_101 : decode cX7_swap 101 = .ok (.getfield 7, 3) := by decide +kernel
theorem dX7_swap_104 : decode cX7_swap 104 = .ok (.bipush 28, 2) := by decide +kernel
theorem dX7_swap_106 : decode cX7_swap 106 = .ok (.iload 6, 2) := by decide +kernel
theorem dX7_swap_108 : decode cX7_swap 108 = .ok (.iadd, 1) := by decide +kernel
theorem dX7_swap_109 : decode cX7_swap 109 = .ok (.iaload, 1) := by decide +kernel
theorem dX7_swap_110 : decode cX7_swap 110 = .ok (.if_icmp .eq 97, 3) := by decide +kernel
theorem dX7_swap_113 : decode cX7_swap 113 = .ok (.aload_n 0, 1) := by decide +kernel
theorem dX7_swap_114 : decode cX7_swap 114 = .ok (.iconst 0, 1) := by decide +kernel
theorem dX7_swap_115 : decode cX7_swap 115 = .ok (.sipush 355, 3) := by decide +kernel
theorem dX7_swap_118 : decode cX7_swap 118 = .ok (.invokevirtual 200, 3) := by decide +kernel
theorem dX7_swap_121 : decode cX7_swap 121 = .ok (.aload_n 0, 1) := by decide +kernel
theorem dX7_swap_122 : decode cX7_swap 122 = .ok (.getfield 7, 3) := by decide +kernel
theorem dX7_swap_125 : decode cX7_swap 125 = .ok (.sipush 383, 3) := by decide +kernel
theorem dX7_swap_128 : decode cX7_swap 128 = .ok (.iload 5, 2) := by decide +kernel
theorem dX7_swap_130 : decode cX7_swap 130 = .ok (.iadd, 1) := by decide +kernel
theorem dX7_swap_131 : decode cX7_swap 131 = .ok (.aload_n 0, 1) := by decide +kernel
theorem dX7_swap_132 : decode cX7_swap 132 = .ok (.getfield 7, 3) := by decide +kernel
theorem dX7_swap_135 : decode cX7_swap 135 = .ok (.bipush 28, 2) := by decide +kernel
theorem dX7_swap_137 : decode cX7_swap 137 = .ok (.iload 6, 2) := by decide +kernel
theorem dX7_swap_139 : decode cX7_swap 139 = .ok (.iadd, 1) := by decide +kernel
theorem dX7_swap_140 : decode cX7_swap 140 = .ok (.iaload, 1) := by decide +kernel
theorem dX7_swap_141 : decode cX7_swap 141 = .ok (.iastore, 1) := by decide +kernel
theorem dX7_swap_142 : decode cX7_swap 142 = .ok (.aload_n 0, 1) := by decide +kernel
theorem dX7_swap_143 : decode cX7_swap 143 = .ok (.getfield 7, 3) := by decide +kernel
theorem dX7_swap_146 : decode cX7_swap 146 = .ok (.sipush 383, 3) := by decide +kernel
theorem dX7_swap_149 : decode cX7_swap 149 = .ok (.iload 6, 2) := by decide +kernel
theorem dX7_swap_151 : decode cX7_swap 151 = .ok (.iadd, 1) := by decide +kernel
theorem dX7_swap_152 : decode cX7_swap 152 = .ok (.aload_n 0, 1) := by decide +kernel
theorem dX7_swap_153 : decode cX7_swap 153 = .ok (.getfield 7, 3) := by decide +kernel
theorem dX7_swap_156 : decode cX7_swap 156 = .ok (.bipush 28, 2) := by decide +kernel
theorem dX7_swap_158 : decode cX7_swap 158 = .ok (.iload 5, 2) := by decide +kernel
theorem dX7_swap_160 : decode cX7_swap 160 = .ok (.iadd, 1) := by decide +kernel
theorem dX7_swap_161 : decode cX7_swap 161 = .ok (.iaload, 1) := by decide +kernel
theorem dX7_swap_162 : decode cX7_swap 162 = .ok (.iastore, 1) := by decide +kernel
theorem dX7_swap_163 : decode cX7_swap 163 = .ok (.aload_n 0, 1) := by decide +kernel
theorem dX7_swap_164 : decode cX7_swap 164 = .ok (.sipush 355, 3) := by decide +kernel
theorem dX7_swap_167 : decode cX7_swap 167 = .ok (.iload_n 1, 1) := by decide +kernel
theorem dX7_swap_168 : decode cX7_swap 168 = .ok (.invokevirtual 208, 3) := by decide +kernel
theorem dX7_swap_171 : decode cX7_swap 171 = .ok (.istore 7, 2) := by decide +kernel
theorem dX7_swap_173 : decode cX7_swap 173 = .ok (.iload 7, 2) := by decide +kernel
theorem dX7_swap_175 : decode cX7_swap 175 = .ok (.iload_n 3, 1) := by decide +kernel
theorem dX7_swap_176 : decode cX7_swap 176 = .ok (.if_icmp .ge 14, 3) := by decide +kernel
theorem dX7_swap_179 : decode cX7_swap 179 = .ok (.bipush 10, 2) := by decide +kernel
theorem dX7_swap_181 : decode cX7_swap 181 = .ok (.iload 5, 2) := by decide +kernel
theorem dX7_swap_183 : decode cX7_swap 183 = .ok (.imul, 1) := by decide +kernel
theorem dX7_swap_184 : decode cX7_swap 184 = .ok (.iload 6, 2) := by decide +kernel
theorem dX7_swap_186 : decode cX7_swap 186 = .ok (.iadd, 1) := by decide +kernel
theorem dX7_swap_187 : decode cX7_swap 187 = .ok (.goto 5, 3) := by decide +kernel
theorem dX7_swap_190 : decode cX7_swap 190 = .ok (.iload 4, 2) := by decide +kernel
theorem dX7_swap_192 : decode cX7_swap 192 = .ok (.istore 4, 2) := by decide +kernel
theorem dX7_swap_194 : decode cX7_swap 194 = .ok (.iload 7, 2) := by decide +kernel
theorem dX7_swap_196 : decode cX7_swap 196 = .ok (.iload_n 3, 1) := by decide +kernel
theorem dX7_swap_197 : decode cX7_swap 197 = .ok (.if_icmp .ge 8, 3) := by decide +kernel
theorem dX7_swap_200 : decode cX7_swap 200 = .ok (.iload 7, 2) := by decide +kernel
theorem dX7_swap_202 : decode cX7_swap 202 = .ok (.goto 4, 3) := by decide +kernel
theorem dX7_swap_205 : decode cX7_swap 205 = .ok (.iload_n 3, 1) := by decide +kernel
theorem dX7_swap_206 : decode cX7_swap 206 = .ok (.istore_n 3, 1) := by decide +kernel
theorem dX7_swap_207 : decode cX7_swap 207 = .ok (.iinc 6 1, 3) := by decide +kernel
theorem dX7_swap_210 : decode cX7_swap 210 = .ok (.goto (-157), 3) := by decide +kernel
theorem dX7_swap_213 : decode cX7_swap 213 = .ok (.iinc 5 1, 3) := by decide +kernel
theorem dX7_swap_216 : decode cX7_swap 216 = .ok (.goto (-178), 3) := by decide +kernel
theorem dX7_swap_219 : decode cX7_swap 219 = .ok (.iload 4, 2) := by decide +kernel
theorem dX7_swap_221 : decode cX7_swap 221 = .ok (.bipush (-4), 2) := by decide +kernel
theorem dX7_swap_223 : decode cX7_swap 223 = .ok (.if_icmp .eq 7, 3) := by decide +kernel
theorem dX7_swap_226 : decode cX7_swap 226 = .ok (.iload_n 2, 1) := by decide +kernel
theorem dX7_swap_227 : decode cX7_swap 227 = .ok (.ifCond .ne 8, 3) := by decide +kernel
theorem dX7_swap_230 : decode cX7_swap 230 = .ok (.iload 4, 2) := by decide +kernel
theorem dX7_swap_232 : decode cX7_swap 232 = .ok (.goto 4, 3) := by decide +kernel
theorem dX7_swap_235 : decode cX7_swap 235 = .ok (.iload_n 3, 1) := by decide +kernel
theorem dX7_swap_236 : decode cX7_swap 236 = .ok (.ireturn, 1) := by decide +kernel
theorem dX7_save_0 : decode cX7_save 0 = .ok (.iload_n 1, 1) := by decide +kernel
theorem dX7_save_1 : decode cX7_save 1 = .ok (.i2l, 1) := by decide +kernel
theorem dX7_save_2 : decode cX7_save 2 = .ok (.lconst 0, 1) := by decide +kernel
theorem dX7_save_3 : decode cX7_save 3 = .ok (.ldc2_w 206, 3) := by decide +kernel
theorem dX7_save_6 : decode cX7_save 6 = .ok (.invokestatic 46, 3) := by decide +kernel
theorem dX7_save_9 : decode cX7_save 9 = .ok (.ifCond .eq 13, 3) := by decide +kernel
theorem dX7_save_12 : decode cX7_save 12 = .ok (.iload_n 2, 1) := by decide +kernel
theorem dX7_save_13 : decode cX7_save 13 = .ok (.i2l, 1) := by decide +kernel
theorem dX7_save_14 : decode cX7_save 14 = .ok (.lconst 0, 1) := by decide +kernel
theorem dX7_save_15 : decode cX7_save 15 = .ok (.lconst 1, 1) := by decide +kernel
theorem dX7_save_16 : decode cX7_save 16 = .ok (.invokestatic 46, 3) := by decide +kernel
theorem dX7_save_19 : decode cX7_save 19 = .ok (.ifCond .ne 5, 3) := by decide +kernel
theorem dX7_save_22 : decode cX7_save 22 = .ok (.iconst (-1), 1) := by decide +kernel
theorem dX7_save_23 : decode cX7_save 23 = .ok (.ireturn, 1) := by decide +kernel
theorem dX7_save_24 : decode cX7_save 24 = .ok (.aload_n 0, 1) := by decide +kernel
theorem dX7_save_25 : decode cX7_save 25 = .ok (.iconst 0, 1) := by decide +kernel
theorem dX7_save_26 : decode cX7_save 26 = .ok (.iload_n 1, 1) := by decide +kernel
theorem dX7_save_27 : decode cX7_save 27 = .ok (.invokevirtual 208, 3) := by decide +kernel
theorem dX7_save_30 : decode cX7_save 30 = .ok (.istore_n 3, 1) := by decide +kernel
theorem dX7_save_31 : decode cX7_save 31 = .ok (.bipush (-4), 2) := by decide +kernel
theorem dX7_save_33 : decode cX7_save 33 = .ok (.istore 4, 2) := by decide +kernel
theorem dX7_save_35 : decode cX7_save 35 = .ok (.iconst 0, 1) := by decide +kernel
theorem dX7_save_36 : decode cX7_save 36 = .ok (.istore 5, 2) := by decide +kernel
theorem dX7_save_38 : decode cX7_save 38 = .ok (.iload 5, 2) := by decide +kernel
theorem dX7_save_40 : decode cX7_save 40 = .ok (.aload_n 0, 1) := by decide +kernel
theorem dX7_save_41 : decode cX7_save 41 = .ok (.getfield 139, 3) := by decide +kernel
theorem dX7_save_44 : decode cX7_save 44 = .ok (.if_icmp .ge 67, 3) := by decide +kernel
theorem dX7_save_47 : decode cX7_save 47 = .ok (.aload_n 0, 1) := by decide +kernel
theorem dX7_save_48 : decode cX7_save 48 = .ok (.iconst 0, 1) := by decide +kernel
theorem dX7_save_49 : decode cX7_save 49 = .ok (.sipush 355, 3) := by decide +kernel
theorem dX7_save_52 : decode cX7_save 52 = .ok (.invokevirtual 200, 3) := by decide +kernel
theorem dX7_save_55 : decode cX7_save 55 = .ok (.aload_n 0, 1) := by decide +kernel
theorem dX7_save_56 : decode cX7_save 56 = .ok (.sipush 355, 3) := by decide +kernel
theorem dX7_save_59 : decode cX7_save 59 = .ok (.iload 5, 2) := by decide +kernel
theorem dX7_save_61 : decode cX7_save 61 = .ok (.invokevirtual 189, 3) := by decide +kernel
theorem dX7_save_64 : decode cX7_save 64 = .ok (.ifCond .lt 41, 3) := by decide +kernel
theorem dX7_save_67 : decode cX7_save 67 = .ok (.aload_n 0, 1) := by decide +kernel
theorem dX7_save_68 : decode cX7_save 68 = .ok (.sipush 355, 3) := by decide +kernel
theorem dX7_save_71 : decode cX7_save 71 = .ok (.iload_n 1, 1) := by decide +kernel
theorem dX7_save_72 : decode cX7_save 72 = .ok (.invokevirtual 208, 3) := by decide +kernel
theorem dX7_save_75 : decode cX7_save 75 = .ok (.istore 6, 2) := by decide +kernel
theorem dX7_save_77 : decode cX7_save 77 = .ok (.iload 6, 2) := by decide +kernel
theorem dX7_save_79 : decode cX7_save 79 = .ok (.iload_n 3, 1) := by decide +kernel
theorem dX7_save_80 : decode cX7_save 80 = .ok (.if_icmp .ge 8, 3) := by decide +kernel
theorem dX7_save_83 : decode cX7_save 83 = .ok (.iload 5, 2) := by decide +kernel
theorem dX7_save_85 : decode cX7_save 85 = .ok (.goto 5, 3) := by decide +kernel
theorem dX7_save_88 : decode cX7_save 88 = .ok (.iload 4, 2) := by decide +kernel
theorem dX7_save_90 : decode cX7_save 90 = .ok (.istore 4, 2) := by decide +kernel
theorem dX7_save_92 : decode cX7_save 92 = .ok (.iload 6, 2) := by decide +kernel
theorem dX7_save_94 : decode cX7_save 94 = .ok (.iload_n 3, 1) := by decide +kernel
theorem dX7_save_95 : decode cX7_save 95 = .ok (.if_icmp .ge 8, 3) := by decide +kernel
theorem dX7_save_98 : decode cX7_save 98 = .ok (.iload 6, 2) := by decide +kernel
theorem dX7_save_100 : decode cX7_save 100 = .ok (.goto 4, 3) := by decide +kernel
theorem dX7_save_103 : decode cX7_save 103 = .ok (.iload_n 3, 1) := by decide +kernel
theorem dX7_save_104 : decode cX7_save 104 = .ok (.istore_n 3, 1) := by decide +kernel
theorem dX7_save_105 : decode cX7_save 105 = .ok (.iinc 5 1, 3) := by decide +kernel
theorem dX7_save_108 : decode cX7_save 108 = .ok (.goto (-70), 3) := by decide +kernel
theorem dX7_save_111 : decode cX7_save 111 = .ok (.iload 4, 2) := by decide +kernel
theorem dX7_save_113 : decode cX7_save 113 = .ok (.bipush (-4), 2) := by decide +kernel
theorem dX7_save_115 : decode cX7_save 115 = .ok (.if_icmp .eq 7, 3) := by decide +kernel
theorem dX7_save_118 : decode cX7_save 118 = .ok (.iload_n 2, 1) := by decide +kernel
theorem dX7_save_119 : decode cX7_save 119 = .ok (.ifCond .ne 8, 3) := by decide +kernel
theorem dX7_save_122 : decode cX7_save 122 = .ok (.iload 4, 2) := by decide +kernel
theorem dX7_save_124 : decode cX7_save 124 = .ok (.goto 4, 3) := by decide +kernel
theorem dX7_save_127 : decode cX7_save 127 = .ok (.iload_n 3, 1) := by decide +kernel
theorem dX7_save_128 : decode cX7_save 128 = .ok (.ireturn, 1) := by decide +kernel
theorem dX7_kind_0 : decode cX7_kind 0 = .ok (.aload_n 0, 1) := by decide +kernel
theorem dX7_kind_1 : decode cX7_kind 1 = .ok (.iload_n 1, 1) := by decide +kernel
theorem dX7_kind_2 : decode cX7_kind 2 = .ok (.invokevirtual 176, 3) := by decide +kernel
theorem dX7_kind_5 : decode cX7_kind 5 = .ok (.ifCond .eq 25, 3) := by decide +kernel
theorem dX7_kind_8 : decode cX7_kind 8 = .ok (.iload_n 2, 1) := by decide +kernel
theorem dX7_kind_9 : decode cX7_kind 9 = .ok (.i2l, 1) := by decide +kernel
theorem dX7_kind_10 : decode cX7_kind 10 = .ok (.lconst 0, 1) := by decide +kernel
theorem dX7_kind_11 : decode cX7_kind 11 = .ok (.ldc2_w 206, 3) := by decide +kernel
theorem dX7_kind_14 : decode cX7_kind 14 = .ok (.invokestatic 46, 3) := by decide +kernel
theorem dX7_kind_17 : decode cX7_kind 17 = .ok (.ifCond .eq 13, 3) := by decide +kernel
theorem dX7_kind_20 : decode cX7_kind 20 = .ok (.iload_n 3, 1) := by decide +kernel
theorem dX7_kind_21 : decode cX7_kind 21 = .ok (.i2l, 1) := by decide +kernel
theorem dX7_kind_22 : decode cX7_kind 22 = .ok (.lconst 0, 1) := by decide +kernel
theorem dX7_kind_23 : decode cX7_kind 23 = .ok (.lconst 1, 1) := by decide +kernel
theorem dX7_kind_24 : decode cX7_kind 24 = .ok (.invokestatic 46, 3) := by decide +kernel
theorem dX7_kind_27 : decode cX7_kind 27 = .ok (.ifCond .ne 5, 3) := by decide +kernel
theorem dX7_kind_30 : decode cX7_kind 30 = .ok (.iconst (-1), 1) := by decide +kernel
theorem dX7_kind_31 : decode cX7_kind 31 = .ok (.ireturn, 1) := by decide +kernel
theorem dX7_kind_32 : decode cX7_kind 32 = .ok (.sipush 1000, 3) := by decide +kernel
theorem dX7_kind_35 : decode cX7_kind 35 = .ok (.istore 4, 2) := by decide +kernel
theorem dX7_kind_37 : decode cX7_kind 37 = .ok (.iconst 0, 1) := by decide +kernel
theorem dX7_kind_38 : decode cX7_kind 38 = .ok (.istore 5, 2) := by decide +kernel
theorem dX7_kind_40 : decode cX7_kind 40 = .ok (.iconst 0, 1) := by decide +kernel
theorem dX7_kind_41 : decode cX7_kind 41 = .ok (.istore 6, 2) := by decide +kernel
theorem dX7_kind_43 : decode cX7_kind 43 = .ok (.iload 6, 2) := by decide +kernel
theorem dX7_kind_45 : decode cX7_kind 45 = .ok (.iconst 4, 1) := by decide +kernel
theorem dX7_kind_46 : decode cX7_kind 46 = .ok (.if_icmp .ge 71, 3) := by decide +kernel
theorem dX7_kind_49 : decode cX7_kind 49 = .ok (.aload_n 0, 1) := by decide +kernel
theorem dX7_kind_50 : decode cX7_kind 50 = .ok (.iconst 0, 1) := by decide +kernel
theorem dX7_kind_51 : decode cX7_kind 51 = .ok (.sipush 355, 3) := by decide +kernel
theorem dX7_kind_54 : decode cX7_kind 54 = .ok (.invokevirtual 200, 3) := by decide +kernel
theorem dX7_kind_57 : decode cX7_kind 57 = .ok (.aload_n 0, 1) := by decide +kernel
theorem dX7_kind_58 : decode cX7_kind 58 = .ok (.getfield 7, 3) := by decide +kernel
theorem dX7_kind_61 : decode cX7_kind 61 = .ok (.sipush 375, 3) := by decide +kernel
theorem dX7_kind_64 : decode cX7_kind 64 = .ok (.iload_n 1, 1) := by decide +kernel
theorem dX7_kind_65 : decode cX7_kind 65 = .ok (.iadd, 1) := by decide +kernel
theorem dX7_kind_66 : decode cX7_kind 66 = .ok (.iload 6, 2) := by decide +kernel
theorem dX7_kind_68 : decode cX7_kind 68 = .ok (.iastore, 1) := by decide +kernel
theorem dX7_kind_69 : decode cX7_kind 69 = .ok (.aload_n 0, 1) := by decide +kernel
theorem dX7_kind_70 : decode cX7_kind 70 = .ok (.sipush 355, 3) := by decide +kernel
theorem dX7_kind_73 : decode cX7_kind 73 = .ok (.iload_n 2, 1) := by decide +kernel
theorem dX7_kind_74 : decode cX7_kind 74 = .ok (.invokevirtual 208, 3) := by decide +kernel
theorem dX7_kind_77 : decode cX7_kind 77 = .ok (.istore 7, 2) := by decide +kernel
theorem dX7_kind_79 : decode cX7_kind 79 = .ok (.iload 7, 2) := by decide +kernel
theorem dX7_kind_81 : decode cX7_kind 81 = .ok (.iload 4, 2) := by decide +kernel
theorem dX7_kind_83 : decode cX7_kind 83 = .ok (.if_icmp .ge 8, 3) := by decide +kernel
theorem dX7_kind_86 : decode cX7_kind 86 = .ok (.iload 6, 2) := by decide +kernel
theorem dX7_kind_88 : decode cX7_kind 88 = .ok (.goto 5, 3) := by decide +kernel
theorem dX7_kind_91 : decode cX7_kind 91 = .ok (.iload 5, 2) := by decide +kernel
theorem dX7_kind_93 : decode cX7_kind 93 = .ok (.istore 5, 2) := by decide +kernel
theorem dX7_kind_95 : decode cX7_kind 95 = .ok (.iload 7, 2) := by decide +kernel
theorem dX7_kind_97 : decode cX7_kind 97 = .ok (.iload 4, 2) := by decide +kernel
theorem dX7_kind_99 : decode cX7_kind 99 = .ok (.if_icmp .ge 8, 3) := by decide +kernel
theorem dX7_kind_102 : decode cX7_kind 102 = .ok (.iload 7, 2) := by decide +kernel
theorem dX7_kind_104 : decode cX7_kind 104 = .ok (.goto 5, 3) := by decide +kernel
theorem dX7_kind_107 : decode cX7_kind 107 = .ok (.iload 4, 2) := by decide +kernel
theorem dX7_kind_109 : decode cX7_kind 109 = .ok (.istore 4, 2) := by decide +kernel
theorem dX7_kind_111 : decode cX7_kind 111 = .ok (.iinc 6 1, 3) := by decide +kernel
theorem dX7_kind_114 : decode cX7_kind 114 = .ok (.goto (-71), 3) := by decide +kernel
theorem dX7_kind_117 : decode cX7_kind 117 = .ok (.iload_n 3, 1) := by decide +kernel
theorem dX7_kind_118 : decode cX7_kind 118 = .ok (.ifCond .ne 8, 3) := by decide +kernel
theorem dX7_kind_121 : decode cX7_kind 121 = .ok (.iload 5, 2) := by decide +kernel
theorem dX7_kind_123 : decode cX7_kind 123 = .ok (.goto 5, 3) := by decide +kernel
theorem dX7_kind_126 : decode cX7_kind 126 = .ok (.iload 4, 2) := by decide +kernel
theorem dX7_kind_128 : decode cX7_kind 128 = .ok (.ireturn, 1) := by decide +kernel
theorem dX7_lowest_0 : decode cX7_lowest 0 = .ok (.lload_n 0, 1) := by decide +kernel
theorem dX7_lowest_1 : decode cX7_lowest 1 = .ok (.lstore 5, 2) := by decide +kernel
theorem dX7_lowest_3 : decode cX7_lowest 3 = .ok (.lload_n 2, 1) := by decide +kernel
theorem dX7_lowest_4 : decode cX7_lowest 4 = .ok (.lstore 7, 2) := by decide +kernel
theorem dX7_lowest_6 : decode cX7_lowest 6 = .ok (.lload 7, 2) := by decide +kernel
theorem dX7_lowest_8 : decode cX7_lowest 8 = .ok (.lconst 0, 1) := by decide +kernel
theorem dX7_lowest_9 : decode cX7_lowest 9 = .ok (.lcmp, 1) := by decide +kernel
theorem dX7_lowest_10 : decode cX7_lowest 10 = .ok (.ifCond .eq 21, 3) := by decide +kernel
theorem dX7_lowest_13 : decode cX7_lowest 13 = .ok (.lload 5, 2) := by decide +kernel
theorem dX7_lowest_15 : decode cX7_lowest 15 = .ok (.lload 7, 2) := by decide +kernel
theorem dX7_lowest_17 : decode cX7_lowest 17 = .ok (.lrem, 1) := by decide +kernel
theorem dX7_lowest_18 : decode cX7_lowest 18 = .ok (.lstore 9, 2) := by decide +kernel
theorem dX7_lowest_20 : decode cX7_lowest 20 = .ok (.lload 7, 2) := by decide +kernel
theorem dX7_lowest_22 : decode cX7_lowest 22 = .ok (.lstore 5, 2) := by decide +kernel
theorem dX7_lowest_24 : decode cX7_lowest 24 = .ok (.lload 9, 2) := by decide +kernel
theorem dX7_lowest_26 : decode cX7_lowest 26 = .ok (.lstore 7, 2) := by decide +kernel
theorem dX7_lowest_28 : decode cX7_lowest 28 = .ok (.goto (-22), 3) := by decide +kernel
theorem dX7_lowest_31 : decode cX7_lowest 31 = .ok (.iload 4, 2) := by decide +kernel
theorem dX7_lowest_33 : decode cX7_lowest 33 = .ok (.ifCond .ne 7, 3) := by decide +kernel
theorem dX7_lowest_36 : decode cX7_lowest 36 = .ok (.lload_n 0, 1) := by decide +kernel
theorem dX7_lowest_37 : decode cX7_lowest 37 = .ok (.goto 4, 3) := by decide +kernel
theorem dX7_lowest_40 : decode cX7_lowest 40 = .ok (.lload_n 2, 1) := by decide +kernel
theorem dX7_lowest_41 : decode cX7_lowest 41 = .ok (.lload 5, 2) := by decide +kernel
theorem dX7_lowest_43 : decode cX7_lowest 43 = .ok (.ldiv, 1) := by decide +kernel
theorem dX7_lowest_44 : decode cX7_lowest 44 = .ok (.lreturn, 1) := by decide +kernel
theorem dX7_byStorm_0 : decode cX7_byStorm 0 = .ok (.lconst 0, 1) := by decide +kernel
theorem dX7_byStorm_1 : decode cX7_byStorm 1 = .ok (.lstore 5, 2) := by decide +kernel
theorem dX7_byStorm_3 : decode cX7_byStorm 3 = .ok (.lconst 1, 1) := by decide +kernel
theorem dX7_byStorm_4 : decode cX7_byStorm 4 = .ok (.lstore 7, 2) := by decide +kernel
theorem dX7_byStorm_6 : decode cX7_byStorm 6 = .ok (.iconst 0, 1) := by decide +kernel
theorem dX7_byStorm_7 : decode cX7_byStorm 7 = .ok (.istore 9, 2) := by decide +kernel
theorem dX7_byStorm_9 : decode cX7_byStorm 9 = .ok (.iload 9, 2) := by decide +kernel
theorem dX7_byStorm_11 : decode cX7_byStorm 11 = .ok (.iload_n 3, 1) := by decide +kernel
theorem dX7_byStorm_12 : decode cX7_byStorm 12 = .ok (.if_icmp .ge 17, 3) := by decide +kernel
theorem dX7_byStorm_15 : decode cX7_byStorm 15 = .ok (.lload 7, 2) := by decide +kernel
theorem dX7_byStorm_17 : decode cX7_byStorm 17 = .ok (.ldc2_w 213, 3) := by decide +kernel
theorem dX7_byStorm_20 : decode cX7_byStorm 20 = .ok (.lmul, 1) := by decide +kernel
theorem dX7_byStorm_21 : decode cX7_byStorm 21 = .ok (.lstore 7, 2) := by decide +kernel
theorem dX7_byStorm_23 : decode cX7_byStorm 23 = .ok (.iinc 9 1, 3) := by decide +kernel
theorem dX7_byStorm_26 : decode cX7_byStorm 26 = .ok (.goto (-17), 3) := by decide +kernel
theorem dX7_byStorm_29 : decode cX7_byStorm 29 = .ok (.iconst 0, 1) := by decide +kernel
theorem dX7_byStorm_30 : decode cX7_byStorm 30 = .ok (.istore 9, 2) := by decide +kernel
theorem dX7_byStorm_32 : decode cX7_byStorm 32 = .ok (.iload 9, 2) := by decide +kernel
theorem dX7_byStorm_34 : decode cX7_byStorm 34 = .ok (.iconst 1, 1) := by decide +kernel
theorem dX7_byStorm_35 : decode cX7_byStorm 35 = .ok (.iload_n 3, 1) := by decide +kernel
theorem dX7_byStorm_36 : decode cX7_byStorm 36 = .ok (.ishl, 1) := by decide +kernel
theorem dX7_byStorm_37 : decode cX7_byStorm 37 = .ok (.if_icmp .ge 151, 3) := by decide +kernel
theorem dX7_byStorm_40 : decode cX7_byStorm 40 = .ok (.lconst 1, 1) := by decide +kernel
theorem dX7_byStorm_41 : decode cX7_byStorm 41 = .ok (.lstore 10, 2) := by decide +kernel
theorem dX7_byStorm_43 : decode cX7_byStorm 43 = .ok (.aload_n 0, 1) := by decide +kernel
theorem dX7_byStorm_44 : decode cX7_byStorm 44 = .ok (.iconst 0, 1) := by decide +kernel
theorem dX7_byStorm_45 : decode cX7_byStorm 45 = .ok (.sipush 284, 3) := by decide +kernel
theorem dX7_byStorm_48 : decode cX7_byStorm 48 = .ok (.invokevirtual 200, 3) := by decide +kernel
theorem dX7_byStorm_51 : decode cX7_byStorm 51 = .ok (.iconst 0, 1) := by decide +kernel
theorem dX7_byStorm_52 : decode cX7_byStorm 52 = .ok (.istore 12, 2) := by decide +kernel
theorem dX7_byStorm_54 : decode cX7_byStorm 54 = .ok (.iload 12, 2) := by decide +kernel
theorem dX7_byStorm_56 : decode cX7_byStorm 56 = .ok (.iload_n 3, 1) := by decide +kernel
theorem dX7_byStorm_57 : decode cX7_byStorm 57 = .ok (.if_icmp .ge 72, 3) := by decide +kernel
theorem dX7_byStorm_60 : decode cX7_byStorm 60 = .ok (.iload 9, 2) := by decide +kernel
theorem dX7_byStorm_62 : decode cX7_byStorm 62 = .ok (.iload 12, 2) := by decide +kernel
theorem dX7_byStorm_64 : decode cX7_byStorm 64 = .ok (.ishr, 1) := by decide +kernel
theorem dX7_byStorm_65 : decode cX7_byStorm 65 = .ok (.iconst 1, 1) := by decide +kernel
theorem dX7_byStorm_66 : decode cX7_byStorm 66 = .ok (.iand, 1) := by decide +kernel
theorem dX7_byStorm_67 : decode cX7_byStorm 67 = .ok (.iconst 1, 1) := by decide +kernel
theorem dX7_byStorm_68 : decode cX7_byStorm 68 = .ok (.if_icmp .ne 7, 3) := by decide +kernel
theorem dX7_byStorm_71 : decode cX7_byStorm 71 = .ok (.iconst 1, 1) := by decide +kernel
theorem dX7_byStorm_72 : decode cX7_byStorm 72 = .ok (.goto 4, 3) := by decide +kernel
theorem dX7_byStorm_75 : decode cX7_byStorm 75 = .ok (.iconst 0, 1) := by decide +kernel
theorem dX7_byStorm_76 : decode cX7_byStorm 76 = .ok (.istore 13, 2) := by decide +kernel
theorem dX7_byStorm_78 : decode cX7_byStorm 78 = .ok (.lload 10, 2) := by decide +kernel
theorem dX7_byStorm_80 : decode cX7_byStorm 80 = .ok (.iload 13, 2) := by decide +kernel
theorem dX7_byStorm_82 : decode cX7_byStorm 82 = .ok (.ifCond .eq 8, 3) := by decide +kernel
theorem dX7_byStorm_85 : decode cX7_byStorm 85 = .ok (.iload_n 1, 1) := by decide +kernel
theorem dX7_byStorm_86 : decode cX7_byStorm 86 = .ok (.i2l, 1) := by decide +kernel
theorem dX7_byStorm_87 : decode cX7_byStorm 87 = .ok (.goto 8, 3) := by decide +kernel
theorem dX7_byStorm_90 : decode cX7_byStorm 90 = .ok (.bipush 10, 2) := by decide +kernel
theorem dX7_byStorm_92 : decode cX7_byStorm 92 = .ok (.iload_n 1, 1) := by decide +kernel
theorem dX7_byStorm_93 : decode cX7_byStorm 93 = .ok (.isub, 1) := by decide +kernel
theorem dX7_byStorm_94 : decode cX7_byStorm 94 = .ok (.i2l, 1) := by decide +kernel
theorem dX7_byStorm_95 : decode cX7_byStorm 95 = .ok (.lmul, 1) := by decide +kernel
theorem dX7_byStorm_96 : decode cX7_byStorm 96 = .ok (.lstore 10, 2) := by decide +kernel
theorem dX7_byStorm_98 : decode cX7_byStorm 98 = .ok (.aload_n 0, 1) := by decide +kernel
theorem dX7_byStorm_99 : decode cX7_byStorm 99 = .ok (.sipush 284, 3) := by decide +kernel
theorem dX7_byStorm_102 : decode cX7_byStorm 102 = .ok (.aload_n 0, 1) := by decide +kernel
theorem dX7_byStorm_103 : decode cX7_byStorm 103 = .ok (.sipush 284, 3) := by decide +kernel
theorem dX7_byStorm_106 : decode cX7_byStorm 106 = .ok (.invokevirtual 194, 3) := by decide +kernel
theorem dX7_byStorm_109 : decode cX7_byStorm 109 = .ok (.iload 13, 2) := by decide +kernel
theorem dX7_byStorm_111 : decode cX7_byStorm 111 = .ok (.ifCond .eq 7, 3) := by decide +kernel
theorem dX7_byStorm_114 : decode cX7_byStorm 114 = .ok (.iconst 2, 1) := by decide +kernel
theorem dX7_byStorm_115 : decode cX7_byStorm 115 = .ok (.goto 4, 3) := by decide +kernel
theorem dX7_byStorm_118 : decode cX7_byStorm 118 = .ok (.iconst 0, 1) := by decide +kernel
theorem dX7_byStorm_119 : decode cX7_byStorm 119 = .ok (.iadd, 1) := by decide +kernel
theorem dX7_byStorm_120 : decode cX7_byStorm 120 = .ok (.invokevirtual 197, 3) := by decide +kernel
theorem dX7_byStorm_123 : decode cX7_byStorm 123 = .ok (.iinc 12 1, 3) := by decide +kernel
theorem dX7_byStorm_126 : decode cX7_byStorm 126 = .ok (.goto (-72), 3) := by decide +kernel
theorem dX7_byStorm_129 : decode cX7_byStorm 129 = .ok (.lload 5, 2) := by decide +kernel
theorem dX7_byStorm_131 : decode cX7_byStorm 131 = .ok (.lload 10, 2) := by decide +kernel
theorem dX7_byStorm_133 : decode cX7_byStorm 133 = .ok (.iload_n 2, 1) := by decide +kernel
theorem dX7_byStorm_134 : decode cX7_byStorm 134 = .ok (.bipush (-4), 2) := by decide +kernel
theorem dX7_byStorm_136 : decode cX7_byStorm 136 = .ok (.if_icmp .ne 22, 3) := by decide +kernel
theorem dX7_byStorm_139 : decode cX7_byStorm 139 = .ok (.aload_n 0, 1) := by decide +kernel
theorem dX7_byStorm_140 : decode cX7_byStorm 140 = .ok (.getfield 7, 3) := by decide +kernel
theorem dX7_byStorm_143 : decode cX7_byStorm 143 = .ok (.sipush 354, 3) := by decide +kernel
theorem dX7_byStorm_146 : decode cX7_byStorm 146 = .ok (.iaload, 1) := by decide +kernel
theorem dX7_byStorm_147 : decode cX7_byStorm 147 = .ok (.aload_n 0, 1) := by decide +kernel
theorem dX7_byStorm_148 : decode cX7_byStorm 148 = .ok (.getfield 7, 3) := by decide +kernel
theorem dX7_byStorm_151 : decode cX7_byStorm 151 = .ok (.bipush 70, 2) := by decide +kernel
theorem dX7_byStorm_153 : decode cX7_byStorm 153 = .ok (.iaload, 1) := by decide +kernel
theorem dX7_byStorm_154 : decode cX7_byStorm 154 = .ok (.isub, 1) := by decide +kernel
theorem dX7_byStorm_155 : decode cX7_byStorm 155 = .ok (.goto 22, 3) := by decide +kernel
theorem dX7_byStorm_158 : decode cX7_byStorm 158 = .ok (.aload_n 0, 1) := by decide +kernel
theorem dX7_byStorm_159 : decode cX7_byStorm 159 = .ok (.getfield 7, 3) := by decide +kernel
theorem dX7_byStorm_162 : decode cX7_byStorm 162 = .ok (.sipush 336, 3) := by decide +kernel
theorem dX7_byStorm_165 : decode cX7_byStorm 165 = .ok (.iload_n 2, 1) := by decide +kernel
theorem dX7_byStorm_166 : decode cX7_byStorm 166 = .ok (.iadd, 1) := by decide +kernel
theorem dX7_byStorm_167 : decode cX7_byStorm 167 = .ok (.iaload, 1) := by decide +kernel
theorem dX7_byStorm_168 : decode cX7_byStorm 168 = .ok (.iconst 2, 1) := by decide +kernel
theorem dX7_byStorm_169 : decode cX7_byStorm 169 = .ok (.if_icmp .ne 7, 3) := by decide +kernel
theorem dX7_byStorm_172 : decode cX7_byStorm 172 = .ok (.iconst 0, 1) := by decide +kernel
theorem dX7_byStorm_173 : decode cX7_byStorm 173 = .ok (.goto 4, 3) := by decide +kernel
theorem dX7_byStorm_176 : decode cX7_byStorm 176 = .ok (.iconst 1, 1) := by decide +kernel
theorem dX7_byStorm_177 : decode cX7_byStorm 177 = .ok (.i2l, 1) := by decide +kernel
theorem dX7_byStorm_178 : decode cX7_byStorm 178 = .ok (.lmul, 1) := by decide +kernel
theorem dX7_byStorm_179 : decode cX7_byStorm 179 = .ok (.ladd, 1) := by decide +kernel
theorem dX7_byStorm_180 : decode cX7_byStorm 180 = .ok (.lstore 5, 2) := by decide +kernel
theorem dX7_byStorm_182 : decode cX7_byStorm 182 = .ok (.iinc 9 1, 3) := by decide +kernel
theorem dX7_byStorm_185 : decode cX7_byStorm 185 = .ok (.goto (-153), 3) := by decide +kernel
theorem dX7_byStorm_188 : decode cX7_byStorm 188 = .ok (.lload 5, 2) := by decide +kernel
theorem dX7_byStorm_190 : decode cX7_byStorm 190 = .ok (.lload 7, 2) := by decide +kernel
theorem dX7_byStorm_192 : decode cX7_byStorm 192 = .ok (.iload 4, 2) := by decide +kernel
theorem dX7_byStorm_194 : decode cX7_byStorm 194 = .ok (.invokestatic 215, 3) := by decide +kernel
theorem dX7_byStorm_197 : decode cX7_byStorm 197 = .ok (.lreturn, 1) := by decide +kernel
theorem dX7_luck_0 : decode cX7_luck 0 = .ok (.iload_n 1, 1) := by decide +kernel
theorem dX7_luck_1 : decode cX7_luck 1 = .ok (.i2l, 1) := by decide +kernel
theorem dX7_luck_2 : decode cX7_luck 2 = .ok (.lconst 0, 1) := by decide +kernel
theorem dX7_luck_3 : decode cX7_luck 3 = .ok (.ldc2_w 213, 3) := by decide +kernel
theorem dX7_luck_6 : decode cX7_luck 6 = .ok (.invokestatic 46, 3) := by decide +kernel
theorem dX7_luck_9 : decode cX7_luck 9 = .ok (.ifCond .eq 46, 3) := by decide +kernel
theorem dX7_luck_12 : decode cX7_luck 12 = .ok (.aload_n 0, 1) := by decide +kernel
theorem dX7_luck_13 : decode cX7_luck 13 = .ok (.iload_n 2, 1) := by decide +kernel
theorem dX7_luck_14 : decode cX7_luck 14 = .ok (.invokevirtual 176, 3) := by decide +kernel
theorem dX7_luck_17 : decode cX7_luck 17 = .ok (.ifCond .eq 38, 3) := by decide +kernel
theorem dX7_luck_20 : decode cX7_luck 20 = .ok (.iload_n 3, 1) := by decide +kernel
theorem dX7_luck_21 : decode cX7_luck 21 = .ok (.i2l, 1) := by decide +kernel
theorem dX7_luck_22 : decode cX7_luck 22 = .ok (.lconst 0, 1) := by decide +kernel
theorem dX7_luck_23 : decode cX7_luck 23 = .ok (.ldc2_w 187, 3) := by decide +kernel
theorem dX7_luck_26 : decode cX7_luck 26 = .ok (.invokestatic 46, 3) := by decide +kernel
theorem dX7_luck_29 : decode cX7_luck 29 = .ok (.ifCond .eq 26, 3) := by decide +kernel
theorem dX7_luck_32 : decode cX7_luck 32 = .ok (.iload 4, 2) := by decide +kernel
theorem dX7_luck_34 : decode cX7_luck 34 = .ok (.i2l, 1) := by decide +kernel
theorem dX7_luck_35 : decode cX7_luck 35 = .ok (.lconst 0, 1) := by decide +kernel
theorem dX7_luck_36 : decode cX7_luck 36 = .ok (.lconst 1, 1) := by decide +kernel
theorem dX7_luck_37 : decode cX7_luck 37 = .ok (.invokestatic 46, 3) := by decide +kernel
theorem dX7_luck_40 : decode cX7_luck 40 = .ok (.ifCond .eq 15, 3) := by decide +kernel
theorem dX7_luck_43 : decode cX7_luck 43 = .ok (.aload_n 0, 1) := by decide +kernel
theorem dX7_luck_44 : decode cX7_luck 44 = .ok (.iload_n 1, 1) := by decide +kernel
theorem dX7_luck_45 : decode cX7_luck 45 = .ok (.iload_n 2, 1) := by decide +kernel
theorem dX7_luck_46 : decode cX7_luck 46 = .ok (.iload_n 3, 1) := by decide +kernel
theorem dX7_luck_47 : decode cX7_luck 47 = .ok (.iload 4, 2) := by decide +kernel
theorem dX7_luck_49 : decode cX7_luck 49 = .ok (.invokevirtual 219, 3) := by decide +kernel
theorem dX7_luck_52 : decode cX7_luck 52 = .ok (.goto 6, 3) := by decide +kernel
theorem dX7_luck_55 : decode cX7_luck 55 = .ok (.ldc2_w 223, 3) := by decide +kernel
theorem dX7_luck_58 : decode cX7_luck 58 = .ok (.lreturn, 1) := by decide +kernel
theorem dX7_mean_0 : decode cX7_mean 0 = .ok (.iload_n 1, 1) := by decide +kernel
theorem dX7_mean_1 : decode cX7_mean 1 = .ok (.i2l, 1) := by decide +kernel
theorem dX7_mean_2 : decode cX7_mean 2 = .ok (.lconst 0, 1) := by decide +kernel
theorem dX7_mean_3 : decode cX7_mean 3 = .ok (.ldc2_w 213, 3) := by decide +kernel
theorem dX7_mean_6 : decode cX7_mean 6 = .ok (.invokestatic 46, 3) := by decide +kernel
theorem dX7_mean_9 : decode cX7_mean 9 = .ok (.ifCond .eq 37, 3) := by decide +kernel
theorem dX7_mean_12 : decode cX7_mean 12 = .ok (.iload_n 2, 1) := by decide +kernel
theorem dX7_mean_13 : decode cX7_mean 13 = .ok (.i2l, 1) := by decide +kernel
theorem dX7_mean_14 : decode cX7_mean 14 = .ok (.lconst 0, 1) := by decide +kernel
theorem dX7_mean_15 : decode cX7_mean 15 = .ok (.ldc2_w 187, 3) := by decide +kernel
theorem dX7_mean_18 : decode cX7_mean 18 = .ok (.invokestatic 46, 3) := by decide +kernel
theorem dX7_mean_21 : decode cX7_mean 21 = .ok (.ifCond .eq 25, 3) := by decide +kernel
theorem dX7_mean_24 : decode cX7_mean 24 = .ok (.iload_n 3, 1) := by decide +kernel
theorem dX7_mean_25 : decode cX7_mean 25 = .ok (.i2l, 1) := by decide +kernel
theorem dX7_mean_26 : decode cX7_mean 26 = .ok (.lconst 0, 1) := by decide +kernel
theorem dX7_mean_27 : decode cX7_mean 27 = .ok (.lconst 1, 1) := by decide +kernel
theorem dX7_mean_28 : decode cX7_mean 28 = .ok (.invokestatic 46, 3) := by decide +kernel
theorem dX7_mean_31 : decode cX7_mean 31 = .ok (.ifCond .eq 15, 3) := by decide +kernel
theorem dX7_mean_34 : decode cX7_mean 34 = .ok (.aload_n 0, 1) := by decide +kernel
theorem dX7_mean_35 : decode cX7_mean 35 = .ok (.iload_n 1, 1) := by decide +kernel
theorem dX7_mean_36 : decode cX7_mean 36 = .ok (.bipush (-4), 2) := by decide +kernel
theorem dX7_mean_38 : decode cX7_mean 38 = .ok (.iload_n 2, 1) := by decide +kernel
theorem dX7_mean_39 : decode cX7_mean 39 = .ok (.iload_n 3, 1) := by decide +kernel
theorem dX7_mean_40 : decode cX7_mean 40 = .ok (.invokevirtual 219, 3) := by decide +kernel
theorem dX7_mean_43 : decode cX7_mean 43 = .ok (.goto 6, 3) := by decide +kernel
theorem dX7_mean_46 : decode cX7_mean 46 = .ok (.ldc2_w 223, 3) := by decide +kernel
theorem dX7_mean_49 : decode cX7_mean 49 = .ok (.lreturn, 1) := by decide +kernel
theorem dX7_see_0 : decode cX7_see 0 = .ok (.iload_n 1, 1) := by decide +kernel
theorem dX7_see_1 : decode cX7_see 1 = .ok (.i2l, 1) := by decide +kernel
theorem dX7_see_2 : decode cX7_see 2 = .ok (.lconst 0, 1) := by decide +kernel
theorem dX7_see_3 : decode cX7_see 3 = .ok (.ldc2_w 225, 3) := by decide +kernel
theorem dX7_see_6 : decode cX7_see 6 = .ok (.invokestatic 46, 3) := by decide +kernel
theorem dX7_see_9 : decode cX7_see 9 = .ok (.ifCond .eq 15, 3) := by decide +kernel
theorem dX7_see_12 : decode cX7_see 12 = .ok (.iload_n 2, 1) := by decide +kernel
theorem dX7_see_13 : decode cX7_see 13 = .ok (.i2l, 1) := by decide +kernel
theorem dX7_see_14 : decode cX7_see 14 = .ok (.lconst 0, 1) := by decide +kernel
theorem dX7_see_15 : decode cX7_see 15 = .ok (.ldc2_w 227, 3) := by decide +kernel
theorem dX7_see_18 : decode cX7_see 18 = .ok (.invokestatic 46, 3) := by decide +kernel
theorem dX7_see_21 : decode cX7_see 21 = .ok (.ifCond .ne 5, 3) := by decide +kernel
theorem dX7_see_24 : decode cX7_see 24 = .ok (.iconst (-1), 1) := by decide +kernel
theorem dX7_see_25 : decode cX7_see 25 = .ok (.ireturn, 1) := by decide +kernel
theorem dX7_see_26 : decode cX7_see 26 = .ok (.aload_n 0, 1) := by decide +kernel
theorem dX7_see_27 : decode cX7_see 27 = .ok (.getfield 142, 3) := by decide +kernel
theorem dX7_see_30 : decode cX7_see 30 = .ok (.bipush 6, 2) := by decide +kernel
theorem dX7_see_32 : decode cX7_see 32 = .ok (.if_icmp .ne 6, 3) := by decide +kernel
theorem dX7_see_35 : decode cX7_see 35 = .ok (.bipush (-3), 2) := by decide +kernel
theorem dX7_see_37 : decode cX7_see 37 = .ok (.ireturn, 1) := by decide +kernel
theorem dX7_see_38 : decode cX7_see 38 = .ok (.aload_n 0, 1) := by decide +kernel
theorem dX7_see_39 : decode cX7_see 39 = .ok (.getfield 25, 3) := by decide +kernel
theorem dX7_see_42 : decode cX7_see 42 = .ok (.iconst 2, 1) := by decide +kernel
theorem dX7_see_43 : decode cX7_see 43 = .ok (.aload_n 0, 1) := by decide +kernel
theorem dX7_see_44 : decode cX7_see 44 = .ok (.getfield 142, 3) := by decide +kernel
theorem dX7_see_47 : decode cX7_see 47 = .ok (.imul, 1) := by decide +kernel
theorem dX7_see_48 : decode cX7_see 48 = .ok (.iload_n 1, 1) := by decide +kernel
theorem dX7_see_49 : decode cX7_see 49 = .ok (.iastore, 1) := by decide +kernel
theorem dX7_see_50 : decode cX7_see 50 = .ok (.aload_n 0, 1) := by decide +kernel
theorem dX7_see_51 : decode cX7_see 51 = .ok (.getfield 25, 3) := by decide +kernel
theorem dX7_see_54 : decode cX7_see 54 = .ok (.iconst 2, 1) := by decide +kernel
theorem dX7_see_55 : decode cX7_see 55 = .ok (.aload_n 0, 1) := by decide +kernel
theorem dX7_see_56 : decode cX7_see 56 = .ok (.getfield 142, 3) := by decide +kernel
theorem dX7_see_59 : decode cX7_see 59 = .ok (.imul, 1) := by decide +kernel
theorem dX7_see_60 : decode cX7_see 60 = .ok (.iconst 1, 1) := by decide +kernel
theorem dX7_see_61 : decode cX7_see 61 = .ok (.iadd, 1) := by decide +kernel
theorem dX7_see_62 : decode cX7_see 62 = .ok (.iload_n 2, 1) := by decide +kernel
theorem dX7_see_63 : decode cX7_see 63 = .ok (.iastore, 1) := by decide +kernel
theorem dX7_see_64 : decode cX7_see 64 = .ok (.aload_n 0, 1) := by decide +kernel
theorem dX7_see_65 : decode cX7_see 65 = .ok (.dup, 1) := by decide +kernel
theorem dX7_see_66 : decode cX7_see 66 = .ok (.getfield 142, 3) := by decide +kernel
theorem dX7_see_69 : decode cX7_see 69 = .ok (.iconst 1, 1) := by decide +kernel
theorem dX7_see_70 : decode cX7_see 70 = .ok (.iadd, 1) := by decide +kernel
theorem dX7_see_71 : decode cX7_see 71 = .ok (.putfield 142, 3) := by decide +kernel
theorem dX7_see_74 : decode cX7_see 74 = .ok (.aload_n 0, 1) := by decide +kernel
theorem dX7_see_75 : decode cX7_see 75 = .ok (.getfield 142, 3) := by decide +kernel
theorem dX7_see_78 : decode cX7_see 78 = .ok (.ireturn, 1) := by decide +kernel
theorem dX7_forget_0 : decode cX7_forget 0 = .ok (.iload_n 1, 1) := by decide +kernel
theorem dX7_forget_1 : decode cX7_forget 1 = .ok (.i2l, 1) := by decide +kernel
theorem dX7_forget_2 : decode cX7_forget 2 = .ok (.lconst 0, 1) := by decide +kernel
theorem dX7_forget_3 : decode cX7_forget 3 = .ok (.aload_n 0, 1) := by decide +kernel
theorem dX7_forget_4 : decode cX7_forget 4 = .ok (.getfield 142, 3) := by decide +kernel
theorem dX7_forget_7 : decode cX7_forget 7 = .ok (.i2l, 1) := by decide +kernel
theorem dX7_forget_8 : decode cX7_forget 8 = .ok (.invokestatic 46, 3) := by decide +kernel
theorem dX7_forget_11 : decode cX7_forget 11 = .ok (.ifCond .ne 5, 3) := by decide +kernel
theorem dX7_forget_14 : decode cX7_forget 14 = .ok (.iconst (-1), 1) := by decide +kernel
theorem dX7_forget_15 : decode cX7_forget 15 = .ok (.ireturn, 1) := by decide +kernel
theorem dX7_forget_16 : decode cX7_forget 16 = .ok (.aload_n 0, 1) := by decide +kernel
theorem dX7_forget_17 : decode cX7_forget 17 = .ok (.getfield 142, 3) := by decide +kernel
theorem dX7_forget_20 : decode cX7_forget 20 = .ok (.istore_n 2, 1) := by decide +kernel
theorem dX7_forget_21 : decode cX7_forget 21 = .ok (.aload_n 0, 1) := by decide +kernel
theorem dX7_forget_22 : decode cX7_forget 22 = .ok (.iload_n 1, 1) := by decide +kernel
theorem dX7_forget_23 : decode cX7_forget 23 = .ok (.putfield 142, 3) := by decide +kernel
theorem dX7_forget_26 : decode cX7_forget 26 = .ok (.iload_n 2, 1) := by decide +kernel
theorem dX7_forget_27 : decode cX7_forget 27 = .ok (.ireturn, 1) := by decide +kernel
theorem dX7_isAsSeen_0 : decode cX7_isAsSeen 0 = .ok (.aload_n 0, 1) := by decide +kernel
theorem dX7_isAsSeen_1 : decode cX7_isAsSeen 1 = .ok (.iconst 0, 1) := by decide +kernel
theorem dX7_isAsSeen_2 : decode cX7_isAsSeen 2 = .ok (.sipush 284, 3) := by decide +kernel
theorem dX7_isAsSeen_5 : decode cX7_isAsSeen 5 = .ok (.invokevirtual 200, 3) := by decide +kernel
theorem dX7_isAsSeen_8 : decode cX7_isAsSeen 8 = .ok (.iconst 1, 1) := by decide +kernel
theorem dX7_isAsSeen_9 : decode cX7_isAsSeen 9 = .ok (.istore_n 2, 1) := by decide +kernel
theorem dX7_isAsSeen_10 : decode cX7_isAsSeen 10 = .ok (.iconst 0, 1) := by decide +kernel
theorem dX7_isAsSeen_11 : decode cX7_isAsSeen 11 = .ok (.istore_n 3, 1) := by decide +kernel
theorem dX7_isAsSeen_12 : decode cX7_isAsSeen 12 = .ok (.iload_n 3, 1) := by decide +kernel
theorem dX7_isAsSeen_13 : decode cX7_isAsSeen 13 = .ok (.bipush 20, 2) := by decide +kernel
theorem dX7_isAsSeen_15 : decode cX7_isAsSeen 15 = .ok (.if_icmp .gt 105, 3) := by decide +kernel
theorem dX7_isAsSeen_18 : decode cX7_isAsSeen 18 = .ok (.aload_n 0, 1) := by decide +kernel
theorem dX7_isAsSeen_19 : decode cX7_isAsSeen 19 = .ok (.getfield 28, 3) := by decide +kernel
theorem dX7_isAsSeen_22 : decode cX7_isAsSeen 22 = .ok (.bipush 21, 2) := by decide +kernel
theorem dX7_isAsSeen_24 : decode cX7_isAsSeen 24 = .ok (.iload_n 1, 1) := by decide +kernel
theorem dX7_isAsSeen_25 : decode cX7_isAsSeen 25 = .ok (.imul, 1) := by decide +kernel
theorem dX7_isAsSeen_26 : decode cX7_isAsSeen 26 = .ok (.iload_n 3, 1) := by decide +kernel
theorem dX7_isAsSeen_27 : decode cX7_isAsSeen 27 = .ok (.iadd, 1) := by decide +kernel
theorem dX7_isAsSeen_28 : decode cX7_isAsSeen 28 = .ok (.aload_n 0, 1) := by decide +kernel
theorem dX7_isAsSeen_29 : decode cX7_isAsSeen 29 = .ok (.getfield 7, 3) := by decide +kernel
theorem dX7_isAsSeen_32 : decode cX7_isAsSeen 32 = .ok (.sipush 354, 3) := by decide +kernel
theorem dX7_isAsSeen_35 : decode cX7_isAsSeen 35 = .ok (.iaload, 1) := by decide +kernel
theorem dX7_isAsSeen_36 : decode cX7_isAsSeen 36 = .ok (.iastore, 1) := by decide +kernel
theorem dX7_isAsSeen_37 : decode cX7_isAsSeen 37 = .ok (.iconst 0, 1) := by decide +kernel
theorem dX7_isAsSeen_38 : decode cX7_isAsSeen 38 = .ok (.istore 4, 2) := by decide +kernel
theorem dX7_isAsSeen_40 : decode cX7_isAsSeen 40 = .ok (.iload 4, 2) := by decide +kernel
theorem dX7_isAsSeen_42 : decode cX7_isAsSeen 42 = .ok (.aload_n 0, 1) := by decide +kernel
theorem dX7_isAsSeen_43 : decode cX7_isAsSeen 43 = .ok (.getfield 142, 3) := by decide +kernel
theorem dX7_isAsSeen_46 : decode cX7_isAsSeen 46 = .ok (.if_icmp .ge 54, 3) := by decide +kernel
theorem dX7_isAsSeen_49 : decode cX7_isAsSeen 49 = .ok (.iload_n 2, 1) := by decide +kernel
theorem dX7_isAsSeen_50 : decode cX7_isAsSeen 50 = .ok (.ifCond .eq 42, 3) := by decide +kernel
theorem dX7_isAsSeen_53 : decode cX7_isAsSeen 53 = .ok (.aload_n 0, 1) := by decide +kernel
theorem dX7_isAsSeen_54 : decode cX7_isAsSeen 54 = .ok (.getfield 25, 3) := by decide +kernel
theorem dX7_isAsSeen_57 : decode cX7_isAsSeen 57 = .ok (.iconst 2, 1) := by decide +kernel
theorem dX7_isAsSeen_58 : decode cX7_isAsSeen 58 = .ok (.iload 4, 2) := by decide +kernel
theorem dX7_isAsSeen_60 : decode cX7_isAsSeen 60 = .ok (.imul, 1) := by decide +kernel
theorem dX7_isAsSeen_61 : decode cX7_isAsSeen 61 = .ok (.iaload, 1) := by decide +kernel
theorem dX7_isAsSeen_62 : decode cX7_isAsSeen 62 = .ok (.iload_n 3, 1) := by decide +kernel
theorem dX7_isAsSeen_63 : decode cX7_isAsSeen 63 = .ok (.if_icmp .ne 25, 3) := by decide +kernel
theorem dX7_isAsSeen_66 : decode cX7_isAsSeen 66 = .ok (.aload_n 0, 1) := by decide +kernel
theorem dX7_isAsSeen_67 : decode cX7_isAsSeen 67 = .ok (.getfield 7, 3) := by decide +kernel
theorem dX7_isAsSeen_70 : decode cX7_isAsSeen 70 = .ok (.sipush 354, 3) := by decide +kernel
theorem dX7_isAsSeen_73 : decode cX7_isAsSeen 73 = .ok (.iaload, 1) := by decide +kernel
theorem dX7_isAsSeen_74 : decode cX7_isAsSeen 74 = .ok (.aload_n 0, 1) := by decide +kernel
theorem dX7_isAsSeen_75 : decode cX7_isAsSeen 75 = .ok (.getfield 25, 3) := by decide +kernel
theorem dX7_isAsSeen_78 : decode cX7_isAsSeen 78 = .ok (.iconst 2, 1) := by decide +kernel
theorem dX7_isAsSeen_79 : decode cX7_isAsSeen 79 = .ok (.iload 4, 2) := by decide +kernel
theorem dX7_isAsSeen_81 : decode cX7_isAsSeen 81 = .ok (.imul, 1) := by decide +kernel
theorem dX7_isAsSeen_82 : decode cX7_isAsSeen 82 = .ok (.iconst 1, 1) := by decide +kernel
theorem dX7_isAsSeen_83 : decode cX7_isAsSeen 83 = .ok (.iadd, 1) := by decide +kernel
theorem dX7_isAsSeen_84 : decode cX7_isAsSeen 84 = .ok (.iaload, 1) := by decide +kernel
theorem dX7_isAsSeen_85 : decode cX7_isAsSeen 85 = .ok (.if_icmp .ne 7, 3) := by decide +kernel
theorem dX7_isAsSeen_88 : decode cX7_isAsSeen 88 = .ok (.iconst 1, 1) := by decide +kernel
theorem dX7_isAsSeen_89 : decode cX7_isAsSeen 89 = .ok (.goto 4, 3) := by decide +kernel
theorem dX7_isAsSeen_92 : decode cX7_isAsSeen 92 = .ok (.iconst 0, 1) := by decide +kernel
theorem dX7_isAsSeen_93 : decode cX7_isAsSeen 93 = .ok (.istore_n 2, 1) := by decide +kernel
theorem dX7_isAsSeen_94 : decode cX7_isAsSeen 94 = .ok (.iinc 4 1, 3) := by decide +kernel
theorem dX7_isAsSeen_97 : decode cX7_isAsSeen 97 = .ok (.goto (-57), 3) := by decide +kernel
theorem dX7_isAsSeen_100 : decode cX7_isAsSeen 100 = .ok (.aload_n 0, 1) := by decide +kernel
theorem dX7_isAsSeen_101 : decode cX7_isAsSeen 101 = .ok (.sipush 284, 3) := by decide +kernel
theorem dX7_isAsSeen_104 : decode cX7_isAsSeen 104 = .ok (.aload_n 0, 1) := by decide +kernel
theorem dX7_isAsSeen_105 : decode cX7_isAsSeen 105 = .ok (.sipush 284, 3) := by decide +kernel
theorem dX7_isAsSeen_108 : decode cX7_isAsSeen 108 = .ok (.invokevirtual 194, 3) := by decide +kernel
theorem dX7_isAsSeen_111 : decode cX7_isAsSeen 111 = .ok (.invokevirtual 197, 3) := by decide +kernel
theorem dX7_isAsSeen_114 : decode cX7_isAsSeen 114 = .ok (.iinc 3 1, 3) := by decide +kernel
theorem dX7_isAsSeen_117 : decode cX7_isAsSeen 117 = .ok (.goto (-105), 3) := by decide +kernel
theorem dX7_isAsSeen_120 : decode cX7_isAsSeen 120 = .ok (.iload_n 2, 1) := by decide +kernel
theorem dX7_isAsSeen_121 : decode cX7_isAsSeen 121 = .ok (.ireturn, 1) := by decide +kernel
theorem dX7_numbersAt_0 : decode cX7_numbersAt 0 = .ok (.aload_n 0, 1) := by decide +kernel
theorem dX7_numbersAt_1 : decode cX7_numbersAt 1 = .ok (.getfield 7, 3) := by decide +kernel
theorem dX7_numbersAt_4 : decode cX7_numbersAt 4 = .ok (.iload_n 1, 1) := by decide +kernel
theorem dX7_numbersAt_5 : decode cX7_numbersAt 5 = .ok (.iaload, 1) := by decide +kernel
theorem dX7_numbersAt_6 : decode cX7_numbersAt 6 = .ok (.istore_n 3, 1) := by decide +kernel
theorem dX7_numbersAt_7 : decode cX7_numbersAt 7 = .ok (.iconst 0, 1) := by decide +kernel
theorem dX7_numbersAt_8 : decode cX7_numbersAt 8 = .ok (.istore 4, 2) := by decide +kernel
theorem dX7_numbersAt_10 : decode cX7_numbersAt 10 = .ok (.iconst 0, 1) := by decide +kernel
theorem dX7_numbersAt_11 : decode cX7_numbersAt 11 = .ok (.istore 5, 2) := by decide +kernel
theorem dX7_numbersAt_13 : decode cX7_numbersAt 13 = .ok (.iload 5, 2) := by decide +kernel
theorem dX7_numbersAt_15 : decode cX7_numbersAt 15 = .ok (.iload_n 2, 1) := by decide +kernel
theorem dX7_numbersAt_16 : decode cX7_numbersAt 16 = .ok (.if_icmp .gt 39, 3) := by decide +kernel
theorem dX7_numbersAt_19 : decode cX7_numbersAt 19 = .ok (.aload_n 0, 1) := by decide +kernel
theorem dX7_numbersAt_20 : decode cX7_numbersAt 20 = .ok (.getfield 7, 3) := by decide +kernel
theorem dX7_numbersAt_23 : decode cX7_numbersAt 23 = .ok (.iload_n 1, 1) := by decide +kernel
theorem dX7_numbersAt_24 : decode cX7_numbersAt 24 = .ok (.iload 5, 2) := by decide +kernel
theorem dX7_numbersAt_26 : decode cX7_numbersAt 26 = .ok (.iastore, 1) := by decide +kernel
theorem dX7_numbersAt_27 : decode cX7_numbersAt 27 = .ok (.iload 4, 2) := by decide +kernel
theorem dX7_numbersAt_29 : decode cX7_numbersAt 29 = .ok (.aload_n 0, 1) := by decide +kernel
theorem dX7_numbersAt_30 : decode cX7_numbersAt 30 = .ok (.iload 5, 2) := by decide +kernel
theorem dX7_numbersAt_32 : decode cX7_numbersAt 32 = .ok (.invokevirtual 229, 3) := by decide +kernel
theorem dX7_numbersAt_35 : decode cX7_numbersAt 35 = .ok (.ifCond .eq 10, 3) := by decide +kernel
theorem dX7_numbersAt_38 : decode cX7_numbersAt 38 = .ok (.iconst 1, 1) := by decide +kernel
theorem dX7_numbersAt_39 : decode cX7_numbersAt 39 = .ok (.iload 5, 2) := by decide +kernel
theorem dX7_numbersAt_41 : decode cX7_numbersAt 41 = .ok (.ishl, 1) := by decide +kernel
theorem dX7_numbersAt_42 : decode cX7_numbersAt 42 = .ok (.goto 4, 3) := by decide +kernel
theorem dX7_numbersAt_45 : decode cX7_numbersAt 45 = .ok (.iconst 0, 1) := by decide +kernel
theorem dX7_numbersAt_46 : decode cX7_numbersAt 46 = .ok (.ior, 1) := by decide +kernel
theorem dX7_numbersAt_47 : decode cX7_numbersAt 47 = .ok (.istore 4, 2) := by decide +kernel
theorem dX7_numbersAt_49 : decode cX7_numbersAt 49 = .ok (.iinc 5 1, 3) := by decide +kernel
theorem dX7_numbersAt_52 : decode cX7_numbersAt 52 = .ok (.goto (-39), 3) := by decide +kernel
theorem dX7_numbersAt_55 : decode cX7_numbersAt 55 = .ok (.aload_n 0, 1) := by decide +kernel
theorem dX7_numbersAt_56 : decode cX7_numbersAt 56 = .ok (.getfield 7, 3) := by decide +kernel
theorem dX7_numbersAt_59 : decode cX7_numbersAt 59 = .ok (.iload_n 1, 1) := by decide +kernel
theorem dX7_numbersAt_60 : decode cX7_numbersAt 60 = .ok (.iload_n 3, 1) := by decide +kernel
theorem dX7_numbersAt_61 : decode cX7_numbersAt 61 = .ok (.iastore, 1) := by decide +kernel
theorem dX7_numbersAt_62 : decode cX7_numbersAt 62 = .ok (.iload 4, 2) := by decide +kernel
theorem dX7_numbersAt_64 : decode cX7_numbersAt 64 = .ok (.ireturn, 1) := by decide +kernel
theorem dX7_kinds_0 : decode cX7_kinds 0 = .ok (.aload_n 0, 1) := by decide +kernel
theorem dX7_kinds_1 : decode cX7_kinds 1 = .ok (.iload_n 1, 1) := by decide +kernel
theorem dX7_kinds_2 : decode cX7_kinds 2 = .ok (.invokevirtual 176, 3) := by decide +kernel
theorem dX7_kinds_5 : decode cX7_kinds 5 = .ok (.ifCond .eq 15, 3) := by decide +kernel
theorem dX7_kinds_8 : decode cX7_kinds 8 = .ok (.aload_n 0, 1) := by decide +kernel
theorem dX7_kinds_9 : decode cX7_kinds 9 = .ok (.bipush 20, 2) := by decide +kernel
theorem dX7_kinds_11 : decode cX7_kinds 11 = .ok (.iload_n 1, 1) := by decide +kernel
theorem dX7_kinds_12 : decode cX7_kinds 12 = .ok (.iadd, 1) := by decide +kernel
theorem dX7_kinds_13 : decode cX7_kinds 13 = .ok (.iconst 3, 1) := by decide +kernel
theorem dX7_kinds_14 : decode cX7_kinds 14 = .ok (.invokevirtual 232, 3) := by decide +kernel
theorem dX7_kinds_17 : decode cX7_kinds 17 = .ok (.goto 4, 3) := by decide +kernel
theorem dX7_kinds_20 : decode cX7_kinds 20 = .ok (.iconst (-1), 1) := by decide +kernel
theorem dX7_kinds_21 : decode cX7_kinds 21 = .ok (.ireturn, 1) := by decide +kernel
theorem dX7_leaks_0 : decode cX7_leaks 0 = .ok (.aload_n 0, 1) := by decide +kernel
theorem dX7_leaks_1 : decode cX7_leaks 1 = .ok (.iload_n 1, 1) := by decide +kernel
theorem dX7_leaks_2 : decode cX7_leaks 2 = .ok (.invokevirtual 167, 3) := by decide +kernel
theorem dX7_leaks_5 : decode cX7_leaks 5 = .ok (.ifCond .eq 15, 3) := by decide +kernel
theorem dX7_leaks_8 : decode cX7_leaks 8 = .ok (.aload_n 0, 1) := by decide +kernel
theorem dX7_leaks_9 : decode cX7_leaks 9 = .ok (.bipush 8, 2) := by decide +kernel
theorem dX7_leaks_11 : decode cX7_leaks 11 = .ok (.iload_n 1, 1) := by decide +kernel
theorem dX7_leaks_12 : decode cX7_leaks 12 = .ok (.iadd, 1) := by decide +kernel
theorem dX7_leaks_13 : decode cX7_leaks 13 = .ok (.iconst 3, 1) := by decide +kernel
theorem dX7_leaks_14 : decode cX7_leaks 14 = .ok (.invokevirtual 232, 3) := by decide +kernel
theorem dX7_leaks_17 : decode cX7_leaks 17 = .ok (.goto 4, 3) := by decide +kernel
theorem dX7_leaks_20 : decode cX7_leaks 20 = .ok (.iconst (-1), 1) := by decide +kernel
theorem dX7_leaks_21 : decode cX7_leaks 21 = .ok (.ireturn, 1) := by decide +kernel
theorem dX7_rooms_0 : decode cX7_rooms 0 = .ok (.aload_n 0, 1) := by decide +kernel
theorem dX7_rooms_1 : decode cX7_rooms 1 = .ok (.iload_n 1, 1) := by decide +kernel
theorem dX7_rooms_2 : decode cX7_rooms 2 = .ok (.invokevirtual 167, 3) := by decide +kernel
theorem dX7_rooms_5 : decode cX7_rooms 5 = .ok (.ifCond .eq 15, 3) := by decide +kernel
theorem dX7_rooms_8 : decode cX7_rooms 8 = .ok (.aload_n 0, 1) := by decide +kernel
theorem dX7_rooms_9 : decode cX7_rooms 9 = .ok (.iconst 4, 1) := by decide +kernel
theorem dX7_rooms_10 : decode cX7_rooms 10 = .ok (.iload_n 1, 1) := by decide +kernel
theorem dX7_rooms_11 : decode cX7_rooms 11 = .ok (.iadd, 1) := by decide +kernel
theorem dX7_rooms_12 : decode cX7_rooms 12 = .ok (.bipush 30, 2) := by decide +kernel
theorem dX7_rooms_14 : decode cX7_rooms 14 = .ok (.invokevirtual 232, 3) := by decide +kernel
theorem dX7_rooms_17 : decode cX7_rooms 17 = .ok (.goto 4, 3) := by decide +kernel
theorem dX7_rooms_20 : decode cX7_rooms 20 = .ok (.iconst (-1), 1) := by decide +kernel
theorem dX7_rooms_21 : decode cX7_rooms 21 = .ok (.ireturn, 1) := by decide +kernel
theorem dX7_ask_0 : decode cX7_ask 0 = .ok (.aload_n 0, 1) := by decide +kernel
theorem dX7_ask_1 : decode cX7_ask 1 = .ok (.iload_n 1, 1) := by decide +kernel
theorem dX7_ask_2 : decode cX7_ask 2 = .ok (.invokevirtual 167, 3) := by decide +kernel
theorem dX7_ask_5 : decode cX7_ask 5 = .ok (.ifCond .eq 13, 3) := by decide +kernel
theorem dX7_ask_8 : decode cX7_ask 8 = .ok (.iload_n 2, 1) := by decide +kernel
theorem dX7_ask_9 : decode cX7_ask 9 = .ok (.i2l, 1) := by decide +kernel
theorem dX7_ask_10 : decode cX7_ask 10 = .ok (.lconst 0, 1) := by decide +kernel
theorem dX7_ask_11 : decode cX7_ask 11 = .ok (.lconst 1, 1) := by decide +kernel
theorem dX7_ask_12 : decode cX7_ask 12 = .ok (.invokestatic 46, 3) := by decide +kernel
theorem dX7_ask_15 : decode cX7_ask 15 = .ok (.ifCond .ne 5, 3) := by decide +kernel
theorem dX7_ask_18 : decode cX7_ask 18 = .ok (.iconst (-1), 1) := by decide +kernel
theorem dX7_ask_19 : decode cX7_ask 19 = .ok (.ireturn, 1) := by decide +kernel
theorem dX7_ask_20 : decode cX7_ask 20 = .ok (.aload_n 0, 1) := by decide +kernel
theorem dX7_ask_21 : decode cX7_ask 21 = .ok (.iconst 4, 1) := by decide +kernel
theorem dX7_ask_22 : decode cX7_ask 22 = .ok (.iload_n 1, 1) := by decide +kernel
theorem dX7_ask_23 : decode cX7_ask 23 = .ok (.iadd, 1) := by decide +kernel
theorem dX7_ask_24 : decode cX7_ask 24 = .ok (.bipush 30, 2) := by decide +kernel
theorem dX7_ask_26 : decode cX7_ask 26 = .ok (.invokevirtual 232, 3) := by decide +kernel
theorem dX7_ask_29 : decode cX7_ask 29 = .ok (.istore_n 3, 1) := by decide +kernel
theorem dX7_ask_30 : decode cX7_ask 30 = .ok (.iload_n 3, 1) := by decide +kernel
theorem dX7_ask_31 : decode cX7_ask 31 = .ok (.invokestatic 235, 3) := by decide +kernel
theorem dX7_ask_34 : decode cX7_ask 34 = .ok (.istore 4, 2) := by decide +kernel
theorem dX7_ask_36 : decode cX7_ask 36 = .ok (.bipush (-4), 2) := by decide +kernel
theorem dX7_ask_38 : decode cX7_ask 38 = .ok (.istore 5, 2) := by decide +kernel
theorem dX7_ask_40 : decode cX7_ask 40 = .ok (.iconst 0, 1) := by decide +kernel
theorem dX7_ask_41 : decode cX7_ask 41 = .ok (.istore 6, 2) := by decide +kernel
theorem dX7_ask_43 : decode cX7_ask 43 = .ok (.iload 6, 2) := by decide +kernel
theorem dX7_ask_45 : decode cX7_ask 45 = .ok (.bipush 20, 2) := by decide +kernel
theorem dX7_ask_47 : decode cX7_ask 47 = .ok (.if_icmp .gt 154, 3) := by decide +kernel
theorem dX7_ask_50 : decode cX7_ask 50 = .ok (.iconst 0, 1) := by decide +kernel
theorem dX7_ask_51 : decode cX7_ask 51 = .ok (.istore 7, 2) := by decide +kernel
theorem dX7_ask_53 : decode cX7_ask 53 = .ok (.iconst 0, 1) := by decide +kernel
theorem dX7_ask_54 : decode cX7_ask 54 = .ok (.istore 8, 2) := by decide +kernel
theorem dX7_ask_56 : decode cX7_ask 56 = .ok (.iload 8, 2) := by decide +kernel
theorem dX7_ask_58 : decode cX7_ask 58 = .ok (.bipush 30, 2) := by decide +kernel
theorem dX7_ask_60 : decode cX7_ask 60 = .ok (.if_icmp .gt 103, 3) := by decide +kernel
theorem dX7_ask_63 : decode cX7_ask 63 = .ok (.iconst 0, 1) := by decide +kernel
theorem dX7_ask_64 : decode cX7_ask 64 = .ok (.istore 9, 2) := by decide +kernel
theorem dX7_ask_66 : decode cX7_ask 66 = .ok (.iconst 0, 1) := by decide +kernel
theorem dX7_ask_67 : decode cX7_ask 67 = .ok (.istore 10, 2) := by decide +kernel
theorem dX7_ask_69 : decode cX7_ask 69 = .ok (.iload 10, 2) := by decide +kernel
theorem dX7_ask_71 : decode cX7_ask 71 = .ok (.bipush 30, 2) := by decide +kernel
theorem dX7_ask_73 : decode cX7_ask 73 = .ok (.if_icmp .gt 68, 3) := by decide +kernel
theorem dX7_ask_76 : decode cX7_ask 76 = .ok (.iload_n 3, 1) := by decide +kernel
theorem dX7_ask_77 : decode cX7_ask 77 = .ok (.iload 8, 2) := by decide +kernel
theorem dX7_ask_79 : decode cX7_ask 79 = .ok (.ishr, 1) := by decide +kernel
theorem dX7_ask_80 : decode cX7_ask 80 = .ok (.iconst 1, 1) := by decide +kernel
theorem dX7_ask_81 : decode cX7_ask 81 = .ok (.iand, 1) := by decide +kernel
theorem dX7_ask_82 : decode cX7_ask 82 = .ok (.iconst 1, 1) := by decide +kernel
theorem dX7_ask_83 : decode cX7_ask 83 = .ok (.if_icmp .ne 58, 3) := by decide +kernel
theorem dX7_ask_86 : decode cX7_ask 86 = .ok (.iload 9, 2) := by decide +kernel
theorem dX7_ask_88 : decode cX7_ask 88 = .ok (.iload_n 3, 1) := by decide +kernel
theorem dX7_ask_89 : decode cX7_ask 89 = .ok (.iload 10, 2) := by decide +kernel
theorem dX7_ask_91 : decode cX7_ask 91 = .ok (.ishr, 1) := by decide +kernel
theorem dX7_ask_92 : decode cX7_ask 92 = .ok (.iconst 1, 1) := by decide +kernel
theorem dX7_ask_93 : decode cX7_ask 93 = .ok (.iand, 1) := by decide +kernel
theorem dX7_ask_94 : decode cX7_ask 94 = .ok (.iconst 1, 1) := by decide +kernel
theorem dX7_ask_95 : decode cX7_ask 95 = .ok (.if_icmp .ne 36, 3) := by decide +kernel
theorem dX7_ask_98 : decode cX7_ask 98 = .ok (.aload_n 0, 1) := by decide +kernel
theorem dX7_ask_99 : decode cX7_ask 99 = .ok (.getfield 28, 3) := by decide +kernel
theorem dX7_ask_102 : decode cX7_ask 102 = .ok (.bipush 21, 2) := by decide +kernel
theorem dX7_ask_104 : decode cX7_ask 104 = .ok (.iload 8, 2) := by decide +kernel
theorem dX7_ask_106 : decode cX7_ask 106 = .ok (.imul, 1) := by decide +kernel
theorem dX7_ask_107 : decode cX7_ask 107 = .ok (.iload 6, 2) := by decide +kernel
theorem dX7_ask_109 : decode cX7_ask 109 = .ok (.iadd, 1) := by decide +kernel
theorem dX7_ask_110 : decode cX7_ask 110 = .ok (.iaload, 1) := by decide +kernel
theorem dX7_ask_111 : decode cX7_ask 111 = .ok (.aload_n 0, 1) := by decide +kernel
theorem dX7_ask_112 : decode cX7_ask 112 = .ok (.getfield 28, 3) := by decide +kernel
theorem dX7_ask_115 : decode cX7_ask 115 = .ok (.bipush 21, 2) := by decide +kernel
theorem dX7_ask_117 : decode cX7_ask 117 = .ok (.iload 10, 2) := by decide +kernel
theorem dX7_ask_119 : decode cX7_ask 119 = .ok (.imul, 1) := by decide +kernel
theorem dX7_ask_120 : decode cX7_ask 120 = .ok (.iload 6, 2) := by decide +kernel
theorem dX7_ask_122 : decode cX7_ask 122 = .ok (.iadd, 1) := by decide +kernel
theorem dX7_ask_123 : decode cX7_ask 123 = .ok (.iaload, 1) := by decide +kernel
theorem dX7_ask_124 : decode cX7_ask 124 = .ok (.if_icmp .ne 7, 3) := by decide +kernel
theorem dX7_ask_127 : decode cX7_ask 127 = .ok (.iconst 1, 1) := by decide +kernel
theorem dX7_ask_128 : decode cX7_ask 128 = .ok (.goto 4, 3) := by decide +kernel
theorem dX7_ask_131 : decode cX7_ask 131 = .ok (.iconst 0, 1) := by decide +kernel
theorem dX7_ask_132 : decode cX7_ask 132 = .ok (.iadd, 1) := by decide +kernel
theorem dX7_ask_133 : decode cX7_ask 133 = .ok (.istore 9, 2) := by decide +kernel
theorem dX7_ask_135 : decode cX7_ask 135 = .ok (.iinc 10 1, 3) := by decide +kernel
theorem dX7_ask_138 : decode cX7_ask 138 = .ok (.goto (-69), 3) := by decide +kernel
theorem dX7_ask_141 : decode cX7_ask 141 = .ok (.iload 9, 2) := by decide +kernel
theorem dX7_ask_143 : decode cX7_ask 143 = .ok (.iload 7, 2) := by decide +kernel
theorem dX7_ask_145 : decode cX7_ask 145 = .ok (.if_icmp .le 8, 3) := by decide +kernel
theorem dX7_ask_148 : decode cX7_ask 148 = .ok (.iload 9, 2) := by decide +kernel
theorem dX7_ask_150 : decode cX7_ask 150 = .ok (.goto 5, 3) := by decide +kernel
theorem dX7_ask_153 : decode cX7_ask 153 = .ok (.iload 7, 2) := by decide +kernel
theorem dX7_ask_155 : decode cX7_ask 155 = .ok (.istore 7, 2) := by decide +kernel
theorem dX7_ask_157 : decode cX7_ask 157 = .ok (.iinc 8 1, 3) := by decide +kernel
theorem dX7_ask_160 : decode cX7_ask 160 = .ok (.goto (-104), 3) := by decide +kernel
theorem dX7_ask_163 : decode cX7_ask 163 = .ok (.iload 7, 2) := by decide +kernel
theorem dX7_ask_165 : decode cX7_ask 165 = .ok (.iload 4, 2) := by decide +kernel
theorem dX7_ask_167 : decode cX7_ask 167 = .ok (.if_icmp .ge 8, 3) := by decide +kernel
theorem dX7_ask_170 : decode cX7_ask 170 = .ok (.iload 6, 2) := by decide +kernel
theorem dX7_ask_172 : decode cX7_ask 172 = .ok (.goto 5, 3) := by decide +kernel
theorem dX7_ask_175 : decode cX7_ask 175 = .ok (.iload 5, 2) := by decide +kernel
theorem dX7_ask_177 : decode cX7_ask 177 = .ok (.istore 5, 2) := by decide +kernel
theorem dX7_ask_179 : decode cX7_ask 179 = .ok (.iload 7, 2) := by decide +kernel
theorem dX7_ask_181 : decode cX7_ask 181 = .ok (.iload 4, 2) := by decide +kernel
theorem dX7_ask_183 : decode cX7_ask 183 = .ok (.if_icmp .ge 8, 3) := by decide +kernel
theorem dX7_ask_186 : decode cX7_ask 186 = .ok (.iload 7, 2) := by decide +kernel
theorem dX7_ask_188 : decode cX7_ask 188 = .ok (.goto 5, 3) := by decide +kernel
theorem dX7_ask_191 : decode cX7_ask 191 = .ok (.iload 4, 2) := by decide +kernel
theorem dX7_ask_193 : decode cX7_ask 193 = .ok (.istore 4, 2) := by decide +kernel
theorem dX7_ask_195 : decode cX7_ask 195 = .ok (.iinc 6 1, 3) := by decide +kernel
theorem dX7_ask_198 : decode cX7_ask 198 = .ok (.goto (-155), 3) := by decide +kernel
theorem dX7_ask_201 : decode cX7_ask 201 = .ok (.iload 5, 2) := by decide +kernel
theorem dX7_ask_203 : decode cX7_ask 203 = .ok (.bipush (-4), 2) := by decide +kernel
theorem dX7_ask_205 : decode cX7_ask 205 = .ok (.if_icmp .eq 7, 3) := by decide +kernel
theorem dX7_ask_208 : decode cX7_ask 208 = .ok (.iload_n 2, 1) := by decide +kernel
theorem dX7_ask_209 : decode cX7_ask 209 = .ok (.ifCond .ne 8, 3) := by decide +kernel
theorem dX7_ask_212 : decode cX7_ask 212 = .ok (.iload 5, 2) := by decide +kernel
theorem dX7_ask_214 : decode cX7_ask 214 = .ok (.goto 5, 3) := by decide +kernel
theorem dX7_ask_217 : decode cX7_ask 217 = .ok (.iload 4, 2) := by decide +kernel
theorem dX7_ask_219 : decode cX7_ask 219 = .ok (.ireturn, 1) := by decide +kernel
theorem dX7_drift_0 : decode cX7_drift 0 = .ok (.iload_n 2, 1) := by decide +kernel
theorem dX7_drift_1 : decode cX7_drift 1 = .ok (.i2l, 1) := by decide +kernel
theorem dX7_drift_2 : decode cX7_drift 2 = .ok (.lconst 1, 1) := by decide +kernel
theorem dX7_drift_3 : decode cX7_drift 3 = .ok (.ldc2_w 206, 3) := by decide +kernel
theorem dX7_drift_6 : decode cX7_drift 6 = .ok (.invokestatic 46, 3) := by decide +kernel
theorem dX7_drift_9 : decode cX7_drift 9 = .ok (.ifCond .eq 13, 3) := by decide +kernel
theorem dX7_drift_12 : decode cX7_drift 12 = .ok (.iload_n 3, 1) := by decide +kernel
theorem dX7_drift_13 : decode cX7_drift 13 = .ok (.i2l, 1) := by decide +kernel
theorem dX7_drift_14 : decode cX7_drift 14 = .ok (.lconst 0, 1) := by decide +kernel
theorem dX7_drift_15 : decode cX7_drift 15 = .ok (.lconst 1, 1) := by decide +kernel
theorem dX7_drift_16 : decode cX7_drift 16 = .ok (.invokestatic 46, 3) := by decide +kernel
theorem dX7_drift_19 : decode cX7_drift 19 = .ok (.ifCond .ne 5, 3) := by decide +kernel
theorem dX7_drift_22 : decode cX7_drift 22 = .ok (.iconst (-1), 1) := by decide +kernel
theorem dX7_drift_23 : decode cX7_drift 23 = .ok (.ireturn, 1) := by decide +kernel
theorem dX7_drift_24 : decode cX7_drift 24 = .ok (.aload_n 0, 1) := by decide +kernel
theorem dX7_drift_25 : decode cX7_drift 25 = .ok (.getfield 136, 3) := by decide +kernel
theorem dX7_drift_28 : decode cX7_drift 28 = .ok (.ifCond .ne 6, 3) := by decide +kernel
theorem dX7_drift_31 : decode cX7_drift 31 = .ok (.bipush (-2), 2) := by decide +kernel
theorem dX7_drift_33 : decode cX7_drift 33 = .ok (.ireturn, 1) := by decide +kernel
theorem dX7_drift_34 : decode cX7_drift 34 = .ok (.aload_n 0, 1) := by decide +kernel
theorem dX7_drift_35 : decode cX7_drift 35 = .ok (.iconst 0, 1) := by decide +kernel
theorem dX7_drift_36 : decode cX7_drift 36 = .ok (.sipush 284, 3) := by decide +kernel
theorem dX7_drift_39 : decode cX7_drift 39 = .ok (.invokevirtual 200, 3) := by decide +kernel
theorem dX7_drift_42 : decode cX7_drift 42 = .ok (.iload_n 1, 1) := by decide +kernel
theorem dX7_drift_43 : decode cX7_drift 43 = .ok (.istore 4, 2) := by decide +kernel
theorem dX7_drift_45 : decode cX7_drift 45 = .ok (.iconst 0, 1) := by decide +kernel
theorem dX7_drift_46 : decode cX7_drift 46 = .ok (.istore 5, 2) := by decide +kernel
theorem dX7_drift_48 : decode cX7_drift 48 = .ok (.iload 5, 2) := by decide +kernel
theorem dX7_drift_50 : decode cX7_drift 50 = .ok (.iload_n 2, 1) := by decide +kernel
theorem dX7_drift_51 : decode cX7_drift 51 = .ok (.if_icmp .ge 63, 3) := by decide +kernel
theorem dX7_drift_54 : decode cX7_drift 54 = .ok (.iload 4, 2) := by decide +kernel
theorem dX7_drift_56 : decode cX7_drift 56 = .ok (.ldc 238, 2) := by decide +kernel
theorem dX7_drift_58 : decode cX7_drift 58 = .ok (.imul, 1) := by decide +kernel
theorem dX7_drift_59 : decode cX7_drift 59 = .ok (.sipush 12345, 3) := by decide +kernel
theorem dX7_drift_62 : decode cX7_drift 62 = .ok (.iadd, 1) := by decide +kernel
theorem dX7_drift_63 : decode cX7_drift 63 = .ok (.istore 4, 2) := by decide +kernel
theorem dX7_drift_65 : decode cX7_drift 65 = .ok (.iload 4, 2) := by decide +kernel
theorem dX7_drift_67 : decode cX7_drift 67 = .ok (.bipush 16, 2) := by decide +kernel
theorem dX7_drift_69 : decode cX7_drift 69 = .ok (.ishr, 1) := by decide +kernel
theorem dX7_drift_70 : decode cX7_drift 70 = .ok (.sipush 32767, 3) := by decide +kernel
theorem dX7_drift_73 : decode cX7_drift 73 = .ok (.iand, 1) := by decide +kernel
theorem dX7_drift_74 : decode cX7_drift 74 = .ok (.istore 6, 2) := by decide +kernel
theorem dX7_drift_76 : decode cX7_drift 76 = .ok (.aload_n 0, 1) := by decide +kernel
theorem dX7_drift_77 : decode cX7_drift 77 = .ok (.getfield 7, 3) := by decide +kernel
theorem dX7_drift_80 : decode cX7_drift 80 = .ok (.sipush 351, 3) := by decide +kernel
theorem dX7_drift_83 : decode cX7_drift 83 = .ok (.iload 6, 2) := by decide +kernel
theorem dX7_drift_85 : decode cX7_drift 85 = .ok (.bipush 16, 2) := by decide +kernel
theorem dX7_drift_87 : decode cX7_drift 87 = .ok (.idiv, 1) := by decide +kernel
theorem dX7_drift_88 : decode cX7_drift 88 = .ok (.bipush 9, 2) := by decide +kernel
theorem dX7_drift_90 : decode cX7_drift 90 = .ok (.irem, 1) := by decide +kernel
theorem dX7_drift_91 : decode cX7_drift 91 = .ok (.iconst 4, 1) := by decide +kernel
theorem dX7_drift_92 : decode cX7_drift 92 = .ok (.isub, 1) := by decide +kernel
theorem dX7_drift_93 : decode cX7_drift 93 = .ok (.iastore, 1) := by decide +kernel
theorem dX7_drift_94 : decode cX7_drift 94 = .ok (.aload_n 0, 1) := by decide +kernel
theorem dX7_drift_95 : decode cX7_drift 95 = .ok (.sipush 284, 3) := by decide +kernel
theorem dX7_drift_98 : decode cX7_drift 98 = .ok (.iload 6, 2) := by decide +kernel
theorem dX7_drift_100 : decode cX7_drift 100 = .ok (.bipush 9, 2) := by decide +kernel
theorem dX7_drift_102 : decode cX7_drift 102 = .ok (.irem, 1) := by decide +kernel
theorem dX7_drift_103 : decode cX7_drift 103 = .ok (.iconst 4, 1) := by decide +kernel
theorem dX7_drift_104 : decode cX7_drift 104 = .ok (.isub, 1) := by decide +kernel
theorem dX7_drift_105 : decode cX7_drift 105 = .ok (.invokevirtual 197, 3) := by decide +kernel
theorem dX7_drift_108 : decode cX7_drift 108 = .ok (.iinc 5 1, 3) := by decide +kernel
theorem dX7_drift_111 : decode cX7_drift 111 = .ok (.goto (-63), 3) := by decide +kernel
theorem dX7_drift_114 : decode cX7_drift 114 = .ok (.iload_n 3, 1) := by decide +kernel
theorem dX7_drift_115 : decode cX7_drift 115 = .ok (.ifCond .ne 22, 3) := by decide +kernel
theorem dX7_drift_118 : decode cX7_drift 118 = .ok (.aload_n 0, 1) := by decide +kernel
theorem dX7_drift_119 : decode cX7_drift 119 = .ok (.getfield 7, 3) := by decide +kernel
theorem dX7_drift_122 : decode cX7_drift 122 = .ok (.sipush 354, 3) := by decide +kernel
theorem dX7_drift_125 : decode cX7_drift 125 = .ok (.iaload, 1) := by decide +kernel
theorem dX7_drift_126 : decode cX7_drift 126 = .ok (.aload_n 0, 1) := by decide +kernel
theorem dX7_drift_127 : decode cX7_drift 127 = .ok (.getfield 7, 3) := by decide +kernel
theorem dX7_drift_130 : decode cX7_drift 130 = .ok (.bipush 70, 2) := by decide +kernel
theorem dX7_drift_132 : decode cX7_drift 132 = .ok (.iaload, 1) := by decide +kernel
theorem dX7_drift_133 : decode cX7_drift 133 = .ok (.isub, 1) := by decide +kernel
theorem dX7_drift_134 : decode cX7_drift 134 = .ok (.goto 10, 3) := by decide +kernel
theorem dX7_drift_137 : decode cX7_drift 137 = .ok (.aload_n 0, 1) := by decide +kernel
theorem dX7_drift_138 : decode cX7_drift 138 = .ok (.sipush 284, 3) := by decide +kernel
theorem dX7_drift_141 : decode cX7_drift 141 = .ok (.invokevirtual 161, 3) := by decide +kernel
theorem dX7_drift_144 : decode cX7_drift 144 = .ok (.ireturn, 1) := by decide +kernel
theorem dX7_keep_0 : decode cX7_keep 0 = .ok (.iload_n 1, 1) := by decide +kernel
theorem dX7_keep_1 : decode cX7_keep 1 = .ok (.i2l, 1) := by decide +kernel
theorem dX7_keep_2 : decode cX7_keep 2 = .ok (.lconst 0, 1) := by decide +kernel
theorem dX7_keep_3 : decode cX7_keep 3 = .ok (.lconst 1, 1) := by decide +kernel
theorem dX7_keep_4 : decode cX7_keep 4 = .ok (.invokestatic 46, 3) := by decide +kernel
theorem dX7_keep_7 : decode cX7_keep 7 = .ok (.ifCond .ne 5, 3) := by decide +kernel
theorem dX7_keep_10 : decode cX7_keep 10 = .ok (.iconst (-1), 1) := by decide +kernel
theorem dX7_keep_11 : decode cX7_keep 11 = .ok (.ireturn, 1) := by decide +kernel
theorem dX7_keep_12 : decode cX7_keep 12 = .ok (.aload_n 0, 1) := by decide +kernel
theorem dX7_keep_13 : decode cX7_keep 13 = .ok (.iconst 0, 1) := by decide +kernel
theorem dX7_keep_14 : decode cX7_keep 14 = .ok (.bipush 71, 2) := by decide +kernel
theorem dX7_keep_16 : decode cX7_keep 16 = .ok (.iload_n 1, 1) := by decide +kernel
theorem dX7_keep_17 : decode cX7_keep 17 = .ok (.iconst 1, 1) := by decide +kernel
theorem dX7_keep_18 : decode cX7_keep 18 = .ok (.iadd, 1) := by decide +kernel
theorem dX7_keep_19 : decode cX7_keep 19 = .ok (.imul, 1) := by decide +kernel
theorem dX7_keep_20 : decode cX7_keep 20 = .ok (.invokevirtual 200, 3) := by decide +kernel
theorem dX7_keep_23 : decode cX7_keep 23 = .ok (.aload_n 0, 1) := by decide +kernel
theorem dX7_keep_24 : decode cX7_keep 24 = .ok (.getfield 31, 3) := by decide +kernel
theorem dX7_keep_27 : decode cX7_keep 27 = .ok (.iload_n 1, 1) := by decide +kernel
theorem dX7_keep_28 : decode cX7_keep 28 = .ok (.baload, 1) := by decide +kernel
theorem dX7_keep_29 : decode cX7_keep 29 = .ok (.ifCond .eq 7, 3) := by decide +kernel
theorem dX7_keep_32 : decode cX7_keep 32 = .ok (.iconst 1, 1) := by decide +kernel
theorem dX7_keep_33 : decode cX7_keep 33 = .ok (.goto 4, 3) := by decide +kernel
theorem dX7_keep_36 : decode cX7_keep 36 = .ok (.iconst 0, 1) := by decide +kernel
theorem dX7_keep_37 : decode cX7_keep 37 = .ok (.istore_n 2, 1) := by decide +kernel
theorem dX7_keep_38 : decode cX7_keep 38 = .ok (.aload_n 0, 1) := by decide +kernel
theorem dX7_keep_39 : decode cX7_keep 39 = .ok (.getfield 31, 3) := by decide +kernel
theorem dX7_keep_42 : decode cX7_keep 42 = .ok (.iload_n 1, 1) := by decide +kernel
theorem dX7_keep_43 : decode cX7_keep 43 = .ok (.iconst 1, 1) := by decide +kernel
theorem dX7_keep_44 : decode cX7_keep 44 = .ok (.bastore, 1) := by decide +kernel
theorem dX7_keep_45 : decode cX7_keep 45 = .ok (.iload_n 2, 1) := by decide +kernel
theorem dX7_keep_46 : decode cX7_keep 46 = .ok (.ireturn, 1) := by decide +kernel
theorem dX7_back_0 : decode cX7_back 0 = .ok (.iload_n 1, 1) := by decide +kernel
theorem dX7_back_1 : decode cX7_back 1 = .ok (.i2l, 1) := by decide +kernel
theorem dX7_back_2 : decode cX7_back 2 = .ok (.lconst 0, 1) := by decide +kernel
theorem dX7_back_3 : decode cX7_back 3 = .ok (.lconst 1, 1) := by decide +kernel
theorem dX7_back_4 : decode cX7_back 4 = .ok (.invokestatic 46, 3) := by decide +kernel
theorem dX7_back_7 : decode cX7_back 7 = .ok (.ifCond .ne 5, 3) := by decide +kernel
theorem dX7_back_10 : decode cX7_back 10 = .ok (.iconst (-1), 1) := by decide +kernel
theorem dX7_back_11 : decode cX7_back 11 = .ok (.ireturn, 1) := by decide +kernel
theorem dX7_back_12 : decode cX7_back 12 = .ok (.aload_n 0, 1) := by decide +kernel
theorem dX7_back_13 : decode cX7_back 13 = .ok (.getfield 31, 3) := by decide +kernel
theorem dX7_back_16 : decode cX7_back 16 = .ok (.iload_n 1, 1) := by decide +kernel
theorem dX7_back_17 : decode cX7_back 17 = .ok (.baload, 1) := by decide +kernel
theorem dX7_back_18 : decode cX7_back 18 = .ok (.ifCond .ne 6, 3) := by decide +kernel
theorem dX7_back_21 : decode cX7_back 21 = .ok (.bipush (-2), 2) := by decide +kernel
theorem dX7_back_23 : decode cX7_back 23 = .ok (.ireturn, 1) := by decide +kernel
theorem dX7_back_24 : decode cX7_back 24 = .ok (.aload_n 0, 1) := by decide +kernel
theorem dX7_back_25 : decode cX7_back 25 = .ok (.bipush 71, 2) := by decide +kernel
theorem dX7_back_27 : decode cX7_back 27 = .ok (.iload_n 1, 1) := by decide +kernel
theorem dX7_back_28 : decode cX7_back 28 = .ok (.iconst 1, 1) := by decide +kernel
theorem dX7_back_29 : decode cX7_back 29 = .ok (.iadd, 1) := by decide +kernel
theorem dX7_back_30 : decode cX7_back 30 = .ok (.imul, 1) := by decide +kernel
theorem dX7_back_31 : decode cX7_back 31 = .ok (.iconst 0, 1) := by decide +kernel
theorem dX7_back_32 : decode cX7_back 32 = .ok (.invokevirtual 200, 3) := by decide +kernel
theorem dX7_back_35 : decode cX7_back 35 = .ok (.aload_n 0, 1) := by decide +kernel
theorem dX7_back_36 : decode cX7_back 36 = .ok (.getfield 7, 3) := by decide +kernel
theorem dX7_back_39 : decode cX7_back 39 = .ok (.bipush 69, 2) := by decide +kernel
theorem dX7_back_41 : decode cX7_back 41 = .ok (.iaload, 1) := by decide +kernel
theorem dX7_back_42 : decode cX7_back 42 = .ok (.ireturn, 1) := by decide +kernel
theorem dX7_sheet_0 : decode cX7_sheet 0 = .ok (.iload_n 1, 1) := by decide +kernel
theorem dX7_sheet_1 : decode cX7_sheet 1 = .ok (.i2l, 1) := by decide +kernel
theorem dX7_sheet_2 : decode cX7_sheet 2 = .ok (.lconst 0, 1) := by decide +kernel
theorem dX7_sheet_3 : decode cX7_sheet 3 = .ok (.ldc2_w 179, 3) := by decide +kernel
theorem dX7_sheet_6 : decode cX7_sheet 6 = .ok (.invokestatic 46, 3) := by decide +kernel
theorem dX7_sheet_9 : decode cX7_sheet 9 = .ok (.ifCond .eq 21, 3) := by decide +kernel
theorem dX7_sheet_12 : decode cX7_sheet 12 = .ok (.iload_n 2, 1) := by decide +kernel
theorem dX7_sheet_13 : decode cX7_sheet 13 = .ok (.i2l, 1) := by decide +kernel
theorem dX7_sheet_14 : decode cX7_sheet 14 = .ok (.lconst 0, 1) := by decide +kernel
theorem dX7_sheet_15 : decode cX7_sheet 15 = .ok (.ldc2_w 211, 3) := by decide +kernel
theorem dX7_sheet_18 : decode cX7_sheet 18 = .ok (.invokestatic 46, 3) := by decide +kernel
theorem dX7_sheet_21 : decode cX7_sheet 21 = .ok (.ifCond .eq 9, 3) := by decide +kernel
theorem dX7_sheet_24 : decode cX7_sheet 24 = .ok (.iload_n 3, 1) := by decide +kernel
theorem dX7_sheet_25 : decode cX7_sheet 25 = .ok (.bipush 40, 2) := by decide +kernel
theorem dX7_sheet_27 : decode cX7_sheet 27 = .ok (.if_icmp .le 5, 3) := by decide +kernel
theorem dX7_sheet_30 : decode cX7_sheet 30 = .ok (.iconst (-1), 1) := by decide +kernel
theorem dX7_sheet_31 : decode cX7_sheet 31 = .ok (.ireturn, 1) := by decide +kernel
theorem dX7_sheet_32 : decode cX7_sheet 32 = .ok (.iload_n 3, 1) := by decide +kernel
theorem dX7_sheet_33 : decode cX7_sheet 33 = .ok (.ifCond .ge 6, 3) := by decide +kernel
theorem dX7_sheet_36 : decode cX7_sheet 36 = .ok (.bipush (-14), 2) := by decide +kernel
theorem dX7_sheet_38 : decode cX7_sheet 38 = .ok (.ireturn, 1) := by decide +kernel
theorem dX7_sheet_39 : decode cX7_sheet 39 = .ok (.aload_n 0, 1) := by decide +kernel
theorem dX7_sheet_40 : decode cX7_sheet 40 = .ok (.getfield 35, 3) := by decide +kernel
theorem dX7_sheet_43 : decode cX7_sheet 43 = .ok (.iload_n 1, 1) := by decide +kernel
theorem dX7_sheet_44 : decode cX7_sheet 44 = .ok (.iload_n 2, 1) := by decide +kernel
theorem dX7_sheet_45 : decode cX7_sheet 45 = .ok (.iastore, 1) := by decide +kernel
theorem dX7_sheet_46 : decode cX7_sheet 46 = .ok (.aload_n 0, 1) := by decide +kernel
theorem dX7_sheet_47 : decode cX7_sheet 47 = .ok (.getfield 38, 3) := by decide +kernel
theorem dX7_sheet_50 : decode cX7_sheet 50 = .ok (.iload_n 1, 1) := by decide +kernel
theorem dX7_sheet_51 : decode cX7_sheet 51 = .ok (.iload_n 3, 1) := by decide +kernel
theorem dX7_sheet_52 : decode cX7_sheet 52 = .ok (.iastore, 1) := by decide +kernel
theorem dX7_sheet_53 : decode cX7_sheet 53 = .ok (.iconst 0, 1) := by decide +kernel
theorem dX7_sheet_54 : decode cX7_sheet 54 = .ok (.istore 4, 2) := by decide +kernel
theorem dX7_sheet_56 : decode cX7_sheet 56 = .ok (.iload 4, 2) := by decide +kernel
theorem dX7_sheet_58 : decode cX7_sheet 58 = .ok (.bipush 40, 2) := by decide +kernel
theorem dX7_sheet_60 : decode cX7_sheet 60 = .ok (.if_icmp .ge 22, 3) := by decide +kernel
theorem dX7_sheet_63 : decode cX7_sheet 63 = .ok (.aload_n 0, 1) := by decide +kernel
theorem dX7_sheet_64 : decode cX7_sheet 64 = .ok (.getfield 41, 3) := by decide +kernel
theorem dX7_sheet_67 : decode cX7_sheet 67 = .ok (.bipush 40, 2) := by decide +kernel
theorem dX7_sheet_69 : decode cX7_sheet 69 = .ok (.iload_n 1, 1) := by decide +kernel
theorem dX7_sheet_70 : decode cX7_sheet 70 = .ok (.imul, 1) := by decide +kernel
theorem dX7_sheet_71 : decode cX7_sheet 71 = .ok (.iload 4, 2) := by decide +kernel
theorem dX7_sheet_73 : decode cX7_sheet 73 = .ok (.iadd, 1) := by decide +kernel
theorem dX7_sheet_74 : decode cX7_sheet 74 = .ok (.iconst 0, 1) := by decide +kernel
theorem dX7_sheet_75 : decode cX7_sheet 75 = .ok (.iastore, 1) := by decide +kernel
theorem dX7_sheet_76 : decode cX7_sheet 76 = .ok (.iinc 4 1, 3) := by decide +kernel
theorem dX7_sheet_79 : decode cX7_sheet 79 = .ok (.goto (-23), 3) := by decide +kernel
theorem dX7_sheet_82 : decode cX7_sheet 82 = .ok (.iconst 1, 1) := by decide +kernel
theorem dX7_sheet_83 : decode cX7_sheet 83 = .ok (.ireturn, 1) := by decide +kernel
theorem dX7_lay_0 : decode cX7_lay 0 = .ok (.iload_n 1, 1) := by decide +kernel
theorem dX7_lay_1 : decode cX7_lay 1 = .ok (.i2l, 1) := by decide +kernel
theorem dX7_lay_2 : decode cX7_lay 2 = .ok (.lconst 0, 1) := by decide +kernel
theorem dX7_lay_3 : decode cX7_lay 3 = .ok (.ldc2_w 179, 3) := by decide +kernel
theorem dX7_lay_6 : decode cX7_lay 6 = .ok (.invokestatic 46, 3) := by decide +kernel
theorem dX7_lay_9 : decode cX7_lay 9 = .ok (.ifCond .ne 5, 3) := by decide +kernel
theorem dX7_lay_12 : decode cX7_lay 12 = .ok (.iconst (-1), 1) := by decide +kernel
theorem dX7_lay_13 : decode cX7_lay 13 = .ok (.ireturn, 1) := by decide +kernel
theorem dX7_lay_14 : decode cX7_lay 14 = .ok (.aload_n 0, 1) := by decide +kernel
theorem dX7_lay_15 : decode cX7_lay 15 = .ok (.getfield 35, 3) := by decide +kernel
theorem dX7_lay_18 : decode cX7_lay 18 = .ok (.iload_n 1, 1) := by decide +kernel
theorem dX7_lay_19 : decode cX7_lay 19 = .ok (.iaload, 1) := by decide +kernel
theorem dX7_lay_20 : decode cX7_lay 20 = .ok (.bipush (-4), 2) := by decide +kernel
theorem dX7_lay_22 : decode cX7_lay 22 = .ok (.if_icmp .ne 6, 3) := by decide +kernel
theorem dX7_lay_25 : decode cX7_lay 25 = .ok (.bipush (-11), 2) := by decide +kernel
theorem dX7_lay_27 : decode cX7_lay 27 = .ok (.ireturn, 1) := by decide +kernel
theorem dX7_lay_28 : decode cX7_lay 28 = .ok (.iload_n 2, 1) := by decide +kernel
theorem dX7_lay_29 : decode cX7_lay 29 = .ok (.i2l, 1) := by decide +kernel
theorem dX7_lay_30 : decode cX7_lay 30 = .ok (.lconst 0, 1) := by decide +kernel
theorem dX7_lay_31 : decode cX7_lay 31 = .ok (.aload_n 0, 1) := by decide +kernel
theorem dX7_lay_32 : decode cX7_lay 32 = .ok (.getfield 38, 3) := by decide +kernel
theorem dX7_lay_35 : decode cX7_lay 35 = .ok (.iload_n 1, 1) := by decide +kernel
theorem dX7_lay_36 : decode cX7_lay 36 = .ok (.iaload, 1) := by decide +kernel
theorem dX7_lay_37 : decode cX7_lay 37 = .ok (.iconst 1, 1) := by decide +kernel
theorem dX7_lay_38 : decode cX7_lay 38 = .ok (.isub, 1) := by decide +kernel
theorem dX7_lay_39 : decode cX7_lay 39 = .ok (.i2l, 1) := by decide +kernel
theorem dX7_lay_40 : decode cX7_lay 40 = .ok (.invokestatic 46, 3) := by decide +kernel
theorem dX7_lay_43 : decode cX7_lay 43 = .ok (.ifCond .ne 6, 3) := by decide +kernel
theorem dX7_lay_46 : decode cX7_lay 46 = .ok (.bipush (-12), 2) := by decide +kernel
theorem dX7_lay_48 : decode cX7_lay 48 = .ok (.ireturn, 1) := by decide +kernel
theorem dX7_lay_49 : decode cX7_lay 49 = .ok (.aload_n 0, 1) := by decide +kernel
theorem dX7_lay_50 : decode cX7_lay 50 = .ok (.getfield 41, 3) := by decide +kernel
theorem dX7_lay_53 : decode cX7_lay 53 = .ok (.bipush 40, 2) := by decide +kernel
theorem dX7_lay_55 : decode cX7_lay 55 = .ok (.iload_n 1, 1) := by decide +kernel
theorem dX7_lay_56 : decode cX7_lay 56 = .ok (.imul, 1) := by decide +kernel
theorem dX7_lay_57 : decode cX7_lay 57 = .ok (.iload_n 2, 1) := by decide +kernel
theorem dX7_lay_58 : decode cX7_lay 58 = .ok (.iadd, 1) := by decide +kernel
theorem dX7_lay_59 : decode cX7_lay 59 = .ok (.aload_n 0, 1) := by decide +kernel
theorem dX7_lay_60 : decode cX7_lay 60 = .ok (.getfield 35, 3) := by decide +kernel
theorem dX7_lay_63 : decode cX7_lay 63 = .ok (.iload_n 1, 1) := by decide +kernel
theorem dX7_lay_64 : decode cX7_lay 64 = .ok (.iaload, 1) := by decide +kernel
theorem dX7_lay_65 : decode cX7_lay 65 = .ok (.ifCond .ne 13, 3) := by decide +kernel
theorem dX7_lay_68 : decode cX7_lay 68 = .ok (.iload_n 3, 1) := by decide +kernel
theorem dX7_lay_69 : decode cX7_lay 69 = .ok (.bipush 24, 2) := by decide +kernel
theorem dX7_lay_71 : decode cX7_lay 71 = .ok (.ishl, 1) := by decide +kernel
theorem dX7_lay_72 : decode cX7_lay 72 = .ok (.bipush 24, 2) := by decide +kernel
theorem dX7_lay_74 : decode cX7_lay 74 = .ok (.ishr, 1) := by decide +kernel
theorem dX7_lay_75 : decode cX7_lay 75 = .ok (.goto 24, 3) := by decide +kernel
theorem dX7_lay_78 : decode cX7_lay 78 = .ok (.aload_n 0, 1) := by decide +kernel
theorem dX7_lay_79 : decode cX7_lay 79 = .ok (.getfield 35, 3) := by decide +kernel
theorem dX7_lay_82 : decode cX7_lay 82 = .ok (.iload_n 1, 1) := by decide +kernel
theorem dX7_lay_83 : decode cX7_lay 83 = .ok (.iaload, 1) := by decide +kernel
theorem dX7_lay_84 : decode cX7_lay 84 = .ok (.iconst 1, 1) := by decide +kernel
theorem dX7_lay_85 : decode cX7_lay 85 = .ok (.if_icmp .ne 13, 3) := by decide +kernel
theorem dX7_lay_88 : decode cX7_lay 88 = .ok (.iload_n 3, 1) := by decide +kernel
theorem dX7_lay_89 : decode cX7_lay 89 = .ok (.bipush 16, 2) := by decide +kernel
theorem dX7_lay_91 : decode cX7_lay 91 = .ok (.ishl, 1) := by decide +kernel
theorem dX7_lay_92 : decode cX7_lay 92 = .ok (.bipush 16, 2) := by decide +kernel
theorem dX7_lay_94 : decode cX7_lay 94 = .ok (.ishr, 1) := by decide +kernel
theorem dX7_lay_95 : decode cX7_lay 95 = .ok (.goto 4, 3) := by decide +kernel
theorem dX7_lay_98 : decode cX7_lay 98 = .ok (.iload_n 3, 1) := by decide +kernel
theorem dX7_lay_99 : decode cX7_lay 99 = .ok (.iastore, 1) := by decide +kernel
theorem dX7_lay_100 : decode cX7_lay 100 = .ok (.iconst 1, 1) := by decide +kernel
theorem dX7_lay_101 : decode cX7_lay 101 = .ok (.ireturn, 1) := by decide +kernel
theorem dX7_read_0 : decode cX7_read 0 = .ok (.iload_n 1, 1) := by decide +kernel
theorem dX7_read_1 : decode cX7_read 1 = .ok (.i2l, 1) := by decide +kernel
theorem dX7_read_2 : decode cX7_read 2 = .ok (.lconst 0, 1) := by decide +kernel
theorem dX7_read_3 : decode cX7_read 3 = .ok (.ldc2_w 179, 3) := by decide +kernel
theorem dX7_read_6 : decode cX7_read 6 = .ok (.invokestatic 46, 3) := by decide +kernel
theorem dX7_read_9 : decode cX7_read 9 = .ok (.ifCond .eq 28, 3) := by decide +kernel
theorem dX7_read_12 : decode cX7_read 12 = .ok (.iload_n 2, 1) := by decide +kernel
theorem dX7_read_13 : decode cX7_read 13 = .ok (.i2l, 1) := by decide +kernel
theorem dX7_read_14 : decode cX7_read 14 = .ok (.lconst 0, 1) := by decide +kernel
theorem dX7_read_15 : decode cX7_read 15 = .ok (.ldc2_w 211, 3) := by decide +kernel
theorem dX7_read_18 : decode cX7_read 18 = .ok (.invokestatic 46, 3) := by decide +kernel
theorem dX7_read_21 : decode cX7_read 21 = .ok (.ifCond .eq 16, 3) := by decide +kernel
theorem dX7_read_24 : decode cX7_read 24 = .ok (.iload 4, 2) := by decide +kernel
theorem dX7_read_26 : decode cX7_read 26 = .ok (.i2l, 1) := by decide +kernel
theorem dX7_read_27 : decode cX7_read 27 = .ok (.lconst 0, 1) := by decide +kernel
theorem dX7_read_28 : decode cX7_read 28 = .ok (.ldc2_w 239, 3) := by decide +kernel
theorem dX7_read_31 : decode cX7_read 31 = .ok (.invokestatic 46, 3) := by decide +kernel
theorem dX7_read_34 : decode cX7_read 34 = .ok (.ifCond .ne 5, 3) := by decide +kernel
theorem dX7_read_37 : decode cX7_read 37 = .ok (.iconst (-1), 1) := by decide +kernel
theorem dX7_read_38 : decode cX7_read 38 = .ok (.ireturn, 1) := by decide +kernel
theorem dX7_read_39 : decode cX7_read 39 = .ok (.aload_n 0, 1) := by decide +kernel
theorem dX7_read_40 : decode cX7_read 40 = .ok (.iconst 0, 1) := by decide +kernel
theorem dX7_read_41 : decode cX7_read 41 = .ok (.sipush 213, 3) := by decide +kernel
theorem dX7_read_44 : decode cX7_read 44 = .ok (.invokevirtual 200, 3) := by decide +kernel
theorem dX7_read_47 : decode cX7_read 47 = .ok (.iconst 0, 1) := by decide +kernel
theorem dX7_read_48 : decode cX7_read 48 = .ok (.istore 5, 2) := by decide +kernel
theorem dX7_read_50 : decode cX7_read 50 = .ok (.iconst 0, 1) := by decide +kernel
theorem dX7_read_51 : decode cX7_read 51 = .ok (.istore 6, 2) := by decide +kernel
theorem dX7_read_53 : decode cX7_read 53 = .ok (.iconst 0, 1) := by decide +kernel
theorem dX7_read_54 : decode cX7_read 54 = .ok (.istore 7, 2) := by decide +kernel
theorem dX7_read_56 : decode cX7_read 56 = .ok (.iload 7, 2) := by decide +kernel
theorem dX7_read_58 : decode cX7_read 58 = .ok (.iload 4, 2) := by decide +kernel
theorem dX7_read_60 : decode cX7_read 60 = .ok (.if_icmp .ge 116, 3) := by decide +kernel
theorem dX7_read_63 : decode cX7_read 63 = .ok (.iload 5, 2) := by decide +kernel
theorem dX7_read_65 : decode cX7_read 65 = .ok (.ifCond .ne 111, 3) := by decide +kernel
theorem dX7_read_68 : decode cX7_read 68 = .ok (.aload_n 0, 1) := by decide +kernel
theorem dX7_read_69 : decode cX7_read 69 = .ok (.getfield 35, 3) := by decide +kernel
theorem dX7_read_72 : decode cX7_read 72 = .ok (.iload_n 1, 1) := by decide +kernel
theorem dX7_read_73 : decode cX7_read 73 = .ok (.iaload, 1) := by decide +kernel
theorem dX7_read_74 : decode cX7_read 74 = .ok (.bipush (-4), 2) := by decide +kernel
theorem dX7_read_76 : decode cX7_read 76 = .ok (.if_icmp .ne 7, 3) := by decide +kernel
theorem dX7_read_79 : decode cX7_read 79 = .ok (.iconst 1, 1) := by decide +kernel
theorem dX7_read_80 : decode cX7_read 80 = .ok (.goto 44, 3) := by decide +kernel
theorem dX7_read_83 : decode cX7_read 83 = .ok (.aload_n 0, 1) := by decide +kernel
theorem dX7_read_84 : decode cX7_read 84 = .ok (.getfield 35, 3) := by decide +kernel
theorem dX7_read_87 : decode cX7_read 87 = .ok (.iload_n 1, 1) := by decide +kernel
theorem dX7_read_88 : decode cX7_read 88 = .ok (.iaload, 1) := by decide +kernel
theorem dX7_read_89 : decode cX7_read 89 = .ok (.iload_n 2, 1) := by decide +kernel
theorem dX7_read_90 : decode cX7_read 90 = .ok (.if_icmp .eq 7, 3) := by decide +kernel
theorem dX7_read_93 : decode cX7_read 93 = .ok (.iconst 3, 1) := by decide +kernel
theorem dX7_read_94 : decode cX7_read 94 = .ok (.goto 30, 3) := by decide +kernel
theorem dX7_read_97 : decode cX7_read 97 = .ok (.iload_n 3, 1) := by decide +kernel
theorem dX7_read_98 : decode cX7_read 98 = .ok (.i2l, 1) := by decide +kernel
theorem dX7_read_99 : decode cX7_read 99 = .ok (.iload 7, 2) := by decide +kernel
theorem dX7_read_101 : decode cX7_read 101 = .ok (.i2l, 1) := by decide +kernel
theorem dX7_read_102 : decode cX7_read 102 = .ok (.ladd, 1) := by decide +kernel
theorem dX7_read_103 : decode cX7_read 103 = .ok (.lconst 0, 1) := by decide +kernel
theorem dX7_read_104 : decode cX7_read 104 = .ok (.aload_n 0, 1) := by decide +kernel
theorem dX7_read_105 : decode cX7_read 105 = .ok (.getfield 38, 3) := by decide +kernel
theorem dX7_read_108 : decode cX7_read 108 = .ok (.iload_n 1, 1) := by decide +kernel
theorem dX7_read_109 : decode cX7_read 109 = .ok (.iaload, 1) := by decide +kernel
theorem dX7_read_110 : decode cX7_read 110 = .ok (.iconst 1, 1) := by decide +kernel
theorem dX7_read_111 : decode cX7_read 111 = .ok (.isub, 1) := by decide +kernel
theorem dX7_read_112 : decode cX7_read 112 = .ok (.i2l, 1) := by decide +kernel
theorem dX7_read_113 : decode cX7_read 113 = .ok (.invokestatic 46, 3) := by decide +kernel
theorem dX7_read_116 : decode cX7_read 116 = .ok (.ifCond .ne 7, 3) := by decide +kernel
theorem dX7_read_119 : decode cX7_read 119 = .ok (.iconst 2, 1) := by decide +kernel
theorem dX7_read_120 : decode cX7_read 120 = .ok (.goto 4, 3) := by decide +kernel
theorem dX7_read_123 : decode cX7_read 123 = .ok (.iconst 0, 1) := by decide +kernel
theorem dX7_read_124 : decode cX7_read 124 = .ok (.istore 5, 2) := by decide +kernel
theorem dX7_read_126 : decode cX7_read 126 = .ok (.iload 5, 2) := by decide +kernel
theorem dX7_read_128 : decode cX7_read 128 = .ok (.ifCond .ne 42, 3) := by decide +kernel
theorem dX7_read_131 : decode cX7_read 131 = .ok (.aload_n 0, 1) := by decide +kernel
theorem dX7_read_132 : decode cX7_read 132 = .ok (.iconst 0, 1) := by decide +kernel
theorem dX7_read_133 : decode cX7_read 133 = .ok (.aload_n 0, 1) := by decide +kernel
theorem dX7_read_134 : decode cX7_read 134 = .ok (.getfield 41, 3) := by decide +kernel
theorem dX7_read_137 : decode cX7_read 137 = .ok (.bipush 40, 2) := by decide +kernel
theorem dX7_read_139 : decode cX7_read 139 = .ok (.iload_n 1, 1) := by decide +kernel
theorem dX7_read_140 : decode cX7_read 140 = .ok (.imul, 1) := by decide +kernel
theorem dX7_read_141 : decode cX7_read 141 = .ok (.iload_n 3, 1) := by decide +kernel
theorem dX7_read_142 : decode cX7_read 142 = .ok (.iadd, 1) := by decide +kernel
theorem dX7_read_143 : decode cX7_read 143 = .ok (.iload 7, 2) := by decide +kernel
theorem dX7_read_145 : decode cX7_read 145 = .ok (.iadd, 1) := by decide +kernel
theorem dX7_read_146 : decode cX7_read 146 = .ok (.iaload, 1) := by decide +kernel
theorem dX7_read_147 : decode cX7_read 147 = .ok (.invokevirtual 189, 3) := by decide +kernel
theorem dX7_read_150 : decode cX7_read 150 = .ok (.ifCond .ge 17, 3) := by decide +kernel
theorem dX7_read_153 : decode cX7_read 153 = .ok (.aload_n 0, 1) := by decide +kernel
theorem dX7_read_154 : decode cX7_read 154 = .ok (.sipush 213, 3) := by decide +kernel
theorem dX7_read_157 : decode cX7_read 157 = .ok (.iconst 0, 1) := by decide +kernel
theorem dX7_read_158 : decode cX7_read 158 = .ok (.invokevirtual 200, 3) := by decide +kernel
theorem dX7_read_161 : decode cX7_read 161 = .ok (.bipush (-20), 2) := by decide +kernel
theorem dX7_read_163 : decode cX7_read 163 = .ok (.iload 6, 2) := by decide +kernel
theorem dX7_read_165 : decode cX7_read 165 = .ok (.isub, 1) := by decide +kernel
theorem dX7_read_166 : decode cX7_read 166 = .ok (.ireturn, 1) := by decide +kernel
theorem dX7_read_167 : decode cX7_read 167 = .ok (.iinc 6 1, 3) := by decide +kernel
theorem dX7_read_170 : decode cX7_read 170 = .ok (.iinc 7 1, 3) := by decide +kernel
theorem dX7_read_173 : decode cX7_read 173 = .ok (.goto (-117), 3) := by decide +kernel
theorem dX7_read_176 : decode cX7_read 176 = .ok (.aload_n 0, 1) := by decide +kernel
theorem dX7_read_177 : decode cX7_read 177 = .ok (.iload 5, 2) := by decide +kernel
theorem dX7_read_179 : decode cX7_read 179 = .ok (.putfield 241, 3) := by decide +kernel
theorem dX7_read_182 : decode cX7_read 182 = .ok (.iload 6, 2) := by decide +kernel
theorem dX7_read_184 : decode cX7_read 184 = .ok (.ireturn, 1) := by decide +kernel
theorem dX7_torn_0 : decode cX7_torn 0 = .ok (.aload_n 0, 1) := by decide +kernel
theorem dX7_torn_1 : decode cX7_torn 1 = .ok (.getfield 241, 3) := by decide +kernel
theorem dX7_torn_4 : decode cX7_torn 4 = .ok (.ireturn, 1) := by decide +kernel
theorem dX7_count_0 : decode cX7_count 0 = .ok (.iconst 0, 1) := by decide +kernel
theorem dX7_count_1 : decode cX7_count 1 = .ok (.istore_n 2, 1) := by decide +kernel
theorem dX7_count_2 : decode cX7_count 2 = .ok (.iconst 0, 1) := by decide +kernel
theorem dX7_count_3 : decode cX7_count 3 = .ok (.istore_n 3, 1) := by decide +kernel
theorem dX7_count_4 : decode cX7_count 4 = .ok (.iconst 0, 1) := by decide +kernel
theorem dX7_count_5 : decode cX7_count 5 = .ok (.istore 4, 2) := by decide +kernel
theorem dX7_count_7 : decode cX7_count 7 = .ok (.iload 4, 2) := by decide +kernel
theorem dX7_count_9 : decode cX7_count 9 = .ok (.aload_n 0, 1) := by decide +kernel
theorem dX7_count_10 : decode cX7_count 10 = .ok (.getfield 136, 3) := by decide +kernel
theorem dX7_count_13 : decode cX7_count 13 = .ok (.if_icmp .ge 21, 3) := by decide +kernel
theorem dX7_count_16 : decode cX7_count 16 = .ok (.iload_n 2, 1) := by decide +kernel
theorem dX7_count_17 : decode cX7_count 17 = .ok (.aload_n 0, 1) := by decide +kernel
theorem dX7_count_18 : decode cX7_count 18 = .ok (.getfield 7, 3) := by decide +kernel
theorem dX7_count_21 : decode cX7_count 21 = .ok (.iconst 4, 1) := by decide +kernel
theorem dX7_count_22 : decode cX7_count 22 = .ok (.iload 4, 2) := by decide +kernel
theorem dX7_count_24 : decode cX7_count 24 = .ok (.iadd, 1) := by decide +kernel
theorem dX7_count_25 : decode cX7_count 25 = .ok (.iaload, 1) := by decide +kernel
theorem dX7_count_26 : decode cX7_count 26 = .ok (.iadd, 1) := by decide +kernel
theorem dX7_count_27 : decode cX7_count 27 = .ok (.istore_n 2, 1) := by decide +kernel
theorem dX7_count_28 : decode cX7_count 28 = .ok (.iinc 4 1, 3) := by decide +kernel
theorem dX7_count_31 : decode cX7_count 31 = .ok (.goto (-24), 3) := by decide +kernel
theorem dX7_count_34 : decode cX7_count 34 = .ok (.iconst 0, 1) := by decide +kernel
theorem dX7_count_35 : decode cX7_count 35 = .ok (.istore 4, 2) := by decide +kernel
theorem dX7_count_37 : decode cX7_count 37 = .ok (.iload 4, 2) := by decide +kernel
theorem dX7_count_39 : decode cX7_count 39 = .ok (.aload_n 0, 1) := by decide +kernel
theorem dX7_count_40 : decode cX7_count 40 = .ok (.getfield 139, 3) := by decide +kernel
theorem dX7_count_43 : decode cX7_count 43 = .ok (.if_icmp .ge 22, 3) := by decide +kernel
theorem dX7_count_46 : decode cX7_count 46 = .ok (.iload_n 3, 1) := by decide +kernel
theorem dX7_count_47 : decode cX7_count 47 = .ok (.aload_n 0, 1) := by decide +kernel
theorem dX7_count_48 : decode cX7_count 48 = .ok (.getfield 7, 3) := by decide +kernel
theorem dX7_count_51 : decode cX7_count 51 = .ok (.bipush 44, 2) := by decide +kernel
theorem dX7_count_53 : decode cX7_count 53 = .ok (.iload 4, 2) := by decide +kernel
theorem dX7_count_55 : decode cX7_count 55 = .ok (.iadd, 1) := by decide +kernel
theorem dX7_count_56 : decode cX7_count 56 = .ok (.iaload, 1) := by decide +kernel
theorem dX7_count_57 : decode cX7_count 57 = .ok (.iadd, 1) := by decide +kernel
theorem dX7_count_58 : decode cX7_count 58 = .ok (.istore_n 3, 1) := by decide +kernel
theorem dX7_count_59 : decode cX7_count 59 = .ok (.iinc 4 1, 3) := by decide +kernel
theorem dX7_count_62 : decode cX7_count 62 = .ok (.goto (-25), 3) := by decide +kernel
theorem dX7_count_65 : decode cX7_count 65 = .ok (.iload_n 1, 1) := by decide +kernel
theorem dX7_count_66 : decode cX7_count 66 = .ok (.tableswitch 105 0 5 #[38, 43, 73, 78, 101, 103], 38) := by decide +kernel
theorem dX7_count_104 : decode cX7_count 104 = .ok (.aload_n 0, 1) := by decide +kernel
theorem dX7_count_105 : decode cX7_count 105 = .ok (.getfield 142, 3) := by decide +kernel
theorem dX7_count_108 : decode cX7_count 108 = .ok (.ireturn, 1) := by decide +kernel
theorem dX7_count_109 : decode cX7_count 109 = .ok (.aload_n 0, 1) := by decide +kernel
theorem dX7_count_110 : decode cX7_count 110 = .ok (.getfield 31, 3) := by decide +kernel
theorem dX7_count_113 : decode cX7_count 113 = .ok (.iconst 0, 1) := by decide +kernel
theorem dX7_count_114 : decode cX7_count 114 = .ok (.baload, 1) := by decide +kernel
theorem dX7_count_115 : decode cX7_count 115 = .ok (.ifCond .eq 7, 3) := by decide +kernel
theorem dX7_count_118 : decode cX7_count 118 = .ok (.iconst 1, 1) := by decide +kernel
theorem dX7_count_119 : decode cX7_count 119 = .ok (.goto 4, 3) := by decide +kernel
theorem dX7_count_122 : decode cX7_count 122 = .ok (.iconst 0, 1) := by decide +kernel
theorem dX7_count_123 : decode cX7_count 123 = .ok (.aload_n 0, 1) := by decide +kernel
theorem dX7_count_124 : decode cX7_count 124 = .ok (.getfield 31, 3) := by decide +kernel
theorem dX7_count_127 : decode cX7_count 127 = .ok (.iconst 1, 1) := by decide +kernel
theorem dX7_count_128 : decode cX7_count 128 = .ok (.baload, 1) := by decide +kernel
theorem dX7_count_129 : decode cX7_count 129 = .ok (.ifCond .eq 7, 3) := by decide +kernel
theorem dX7_count_132 : decode cX7_count 132 = .ok (.iconst 1, 1) := by decide +kernel
theorem dX7_count_133 : decode cX7_count 133 = .ok (.goto 4, 3) := by decide +kernel
theorem dX7_count_136 : decode cX7_count 136 = .ok (.iconst 0, 1) := by decide +kernel
theorem dX7_count_137 : decode cX7_count 137 = .ok (.iadd, 1) := by decide +kernel
theorem dX7_count_138 : decode cX7_count 138 = .ok (.ireturn, 1) := by decide +kernel
theorem dX7_count_139 : decode cX7_count 139 = .ok (.aload_n 0, 1) := by decide +kernel
theorem dX7_count_140 : decode cX7_count 140 = .ok (.getfield 50, 3) := by decide +kernel
theorem dX7_count_143 : decode cX7_count 143 = .ok (.ireturn, 1) := by decide +kernel
theorem dX7_count_144 : decode cX7_count 144 = .ok (.aload_n 0, 1) := by decide +kernel
theorem dX7_count_145 : decode cX7_count 145 = .ok (.getfield 35, 3) := by decide +kernel
theorem dX7_count_148 : decode cX7_count 148 = .ok (.iconst 0, 1) := by decide +kernel
theorem dX7_count_149 : decode cX7_count 149 = .ok (.iaload, 1) := by decide +kernel
theorem dX7_count_150 : decode cX7_count 150 = .ok (.bipush (-4), 2) := by decide +kernel
theorem dX7_count_152 : decode cX7_count 152 = .ok (.if_icmp .ne 8, 3) := by decide +kernel
theorem dX7_count_155 : decode cX7_count 155 = .ok (.bipush (-4), 2) := by decide +kernel
theorem dX7_count_157 : decode cX7_count 157 = .ok (.goto 9, 3) := by decide +kernel
theorem dX7_count_160 : decode cX7_count 160 = .ok (.aload_n 0, 1) := by decide +kernel
theorem dX7_count_161 : decode cX7_count 161 = .ok (.getfield 38, 3) := by decide +kernel
theorem dX7_count_164 : decode cX7_count 164 = .ok (.iconst 0, 1) := by decide +kernel
theorem dX7_count_165 : decode cX7_count 165 = .ok (.iaload, 1) := by decide +kernel
theorem dX7_count_166 : decode cX7_count 166 = .ok (.ireturn, 1) := by decide +kernel
theorem dX7_count_167 : decode cX7_count 167 = .ok (.iload_n 2, 1) := by decide +kernel
theorem dX7_count_168 : decode cX7_count 168 = .ok (.ireturn, 1) := by decide +kernel
theorem dX7_count_169 : decode cX7_count 169 = .ok (.iload_n 3, 1) := by decide +kernel
theorem dX7_count_170 : decode cX7_count 170 = .ok (.ireturn, 1) := by decide +kernel
theorem dX7_count_171 : decode cX7_count 171 = .ok (.iconst (-1), 1) := by decide +kernel
theorem dX7_count_172 : decode cX7_count 172 = .ok (.ireturn, 1) := by decide +kernel
