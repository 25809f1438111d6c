theorem dX9_init_0 : decode cX9_init 0 = .ok (.aload_n 0, 1) := by decide +kernel
theorem dX9_init_1 : decode cX9_init 1 = .ok (.invokespecial 1, 3) := by decide +kernel
theorem dX9_init_4 : decode cX9_init 4 = .ok (.aload_n 0, 1) := by decide +kernel
theorem dX9_init_5 : decode cX9_init 5 = .ok (.sipush 320, 3) := by decide +kernel
theorem dX9_init_8 : decode cX9_init 8 = .ok (.newarray .int, 2) := by decide +kernel
theorem dX9_init_10 : decode cX9_init 10 = .ok (.putfield 7, 3) := by decide +kernel
theorem dX9_init_13 : decode cX9_init 13 = .ok (.aload_n 0, 1) := by decide +kernel
theorem dX9_init_14 : decode cX9_init 14 = .ok (.bipush 9, 2) := by decide +kernel
theorem dX9_init_16 : decode cX9_init 16 = .ok (.newarray .int, 2) := by decide +kernel
theorem dX9_init_18 : decode cX9_init 18 = .ok (.dup, 1) := by decide +kernel
theorem dX9_init_19 : decode cX9_init 19 = .ok (.iconst 0, 1) := by decide +kernel
theorem dX9_init_20 : decode cX9_init 20 = .ok (.bipush 100, 2) := by decide +kernel
theorem dX9_init_22 : decode cX9_init 22 = .ok (.iastore, 1) := by decide +kernel
theorem dX9_init_23 : decode cX9_init 23 = .ok (.dup, 1) := by decide +kernel
theorem dX9_init_24 : decode cX9_init 24 = .ok (.iconst 1, 1) := by decide +kernel
theorem dX9_init_25 : decode cX9_init 25 = .ok (.bipush 20, 2) := by decide +kernel
theorem dX9_init_27 : decode cX9_init 27 = .ok (.iastore, 1) := by decide +kernel
theorem dX9_init_28 : decode cX9_init 28 = .ok (.dup, 1) := by decide +kernel
theorem dX9_init_29 : decode cX9_init 29 = .ok (.iconst 2, 1) := by decide +kernel
theorem dX9_init_30 : decode cX9_init 30 = .ok (.iconst 2, 1) := by decide +kernel
theorem dX9_init_31 : decode cX9_init 31 = .ok (.iastore, 1) := by decide +kernel
theorem dX9_init_32 : decode cX9_init 32 = .ok (.dup, 1) := by decide +kernel
theorem dX9_init_33 : decode cX9_init 33 = .ok (.iconst 3, 1) := by decide +kernel
theorem dX9_init_34 : decode cX9_init 34 = .ok (.iconst 2, 1) := by decide +kernel
theorem dX9_init_35 : decode cX9_init 35 = .ok (.iastore, 1) := by decide +kernel
theorem dX9_init_36 : decode cX9_init 36 = .ok (.dup, 1) := by decide +kernel
theorem dX9_init_37 : decode cX9_init 37 = .ok (.iconst 4, 1) := by decide +kernel
theorem dX9_init_38 : decode cX9_init 38 = .ok (.iconst 1, 1) := by decide +kernel
theorem dX9_init_39 : decode cX9_init 39 = .ok (.iastore, 1) := by decide +kernel
theorem dX9_init_40 : decode cX9_init 40 = .ok (.dup, 1) := by decide +kernel
theorem dX9_init_41 : decode cX9_init 41 = .ok (.iconst 5, 1) := by decide +kernel
theorem dX9_init_42 : decode cX9_init 42 = .ok (.iconst 4, 1) := by decide +kernel
theorem dX9_init_43 : decode cX9_init 43 = .ok (.iastore, 1) := by decide +kernel
theorem dX9_init_44 : decode cX9_init 44 = .ok (.dup, 1) := by decide +kernel
theorem dX9_init_45 : decode cX9_init 45 = .ok (.bipush 6, 2) := by decide +kernel
theorem dX9_init_47 : decode cX9_init 47 = .ok (.iconst 0, 1) := by decide +kernel
theorem dX9_init_48 : decode cX9_init 48 = .ok (.iastore, 1) := by decide +kernel
theorem dX9_init_49 : decode cX9_init 49 = .ok (.dup, 1) := by decide +kernel
theorem dX9_init_50 : decode cX9_init 50 = .ok (.bipush 7, 2) := by decide +kernel
theorem dX9_init_52 : decode cX9_init 52 = .ok (.iconst 2, 1) := by decide +kernel
theorem dX9_init_53 : decode cX9_init 53 = .ok (.iastore, 1) := by decide +kernel
theorem dX9_init_54 : decode cX9_init 54 = .ok (.dup, 1) := by decide +kernel
theorem dX9_init_55 : decode cX9_init 55 = .ok (.bipush 8, 2) := by decide +kernel
theorem dX9_init_57 : decode cX9_init 57 = .ok (.iconst 3, 1) := by decide +kernel
theorem dX9_init_58 : decode cX9_init 58 = .ok (.iastore, 1) := by decide +kernel
theorem dX9_init_59 : decode cX9_init 59 = .ok (.putfield 13, 3) := by decide +kernel
theorem dX9_init_62 : decode cX9_init 62 = .ok (.aload_n 0, 1) := by decide +kernel
theorem dX9_init_63 : decode cX9_init 63 = .ok (.bipush 9, 2) := by decide +kernel
theorem dX9_init_65 : decode cX9_init 65 = .ok (.newarray .int, 2) := by decide +kernel
theorem dX9_init_67 : decode cX9_init 67 = .ok (.dup, 1) := by decide +kernel
theorem dX9_init_68 : decode cX9_init 68 = .ok (.iconst 0, 1) := by decide +kernel
theorem dX9_init_69 : decode cX9_init 69 = .ok (.bipush 100, 2) := by decide +kernel
theorem dX9_init_71 : decode cX9_init 71 = .ok (.iastore, 1) := by decide +kernel
theorem dX9_init_72 : decode cX9_init 72 = .ok (.dup, 1) := by decide +kernel
theorem dX9_init_73 : decode cX9_init 73 = .ok (.iconst 1, 1) := by decide +kernel
theorem dX9_init_74 : decode cX9_init 74 = .ok (.bipush 20, 2) := by decide +kernel
theorem dX9_init_76 : decode cX9_init 76 = .ok (.iastore, 1) := by decide +kernel
theorem dX9_init_77 : decode cX9_init 77 = .ok (.dup, 1) := by decide +kernel
theorem dX9_init_78 : decode cX9_init 78 = .ok (.iconst 2, 1) := by decide +kernel
theorem dX9_init_79 : decode cX9_init 79 = .ok (.iconst 2, 1) := by decide +kernel
theorem dX9_init_80 : decode cX9_init 80 = .ok (.iastore, 1) := by decide +kernel
theorem dX9_init_81 : decode cX9_init 81 = .ok (.dup, 1) := by decide +kernel
theorem dX9_init_82 : decode cX9_init 82 = .ok (.iconst 3, 1) := by decide +kernel
theorem dX9_init_83 : decode cX9_init 83 = .ok (.iconst 2, 1) := by decide +kernel
theorem dX9_init_84 : decode cX9_init 84 = .ok (.iastore, 1) := by decide +kernel
theorem dX9_init_85 : decode cX9_init 85 = .ok (.dup, 1) := by decide +kernel
theorem dX9_init_86 : decode cX9_init 86 = .ok (.iconst 4, 1) := by decide +kernel
theorem dX9_init_87 : decode cX9_init 87 = .ok (.iconst 1, 1) := by decide +kernel
theorem dX9_init_88 : decode cX9_init 88 = .ok (.iastore, 1) := by decide +kernel
theorem dX9_init_89 : decode cX9_init 89 = .ok (.dup, 1) := by decide +kernel
theorem dX9_init_90 : decode cX9_init 90 = .ok (.iconst 5, 1) := by decide +kernel
theorem dX9_init_91 : decode cX9_init 91 = .ok (.iconst 4, 1) := by decide +kernel
theorem dX9_init_92 : decode cX9_init 92 = .ok (.iastore, 1) := by decide +kernel
theorem dX9_init_93 : decode cX9_init 93 = .ok (.dup, 1) := by decide +kernel
theorem dX9_init_94 : decode cX9_init 94 = .ok (.bipush 6, 2) := by decide +kernel
theorem dX9_init_96 : decode cX9_init 96 = .ok (.iconst 0, 1) := by decide +kernel
theorem dX9_init_97 : decode cX9_init 97 = .ok (.iastore, 1) := by decide +kernel
theorem dX9_init_98 : decode cX9_init 98 = .ok (.dup, 1) := by decide +kernel
theorem dX9_init_99 : decode cX9_init 99 = .ok (.bipush 7, 2) := by decide +kernel
theorem dX9_init_101 : decode cX9_init 101 = .ok (.iconst 2, 1) := by decide +kernel
theorem dX9_init_102 : decode cX9_init 102 = .ok (.iastore, 1) := by decide +kernel
theorem dX9_init_103 : decode cX9_init 103 = .ok (.dup, 1) := by decide +kernel
theorem dX9_init_104 : decode cX9_init 104 = .ok (.bipush 8, 2) := by decide +kernel
theorem dX9_init_106 : decode cX9_init 106 = .ok (.iconst 3, 1) := by decide +kernel
theorem dX9_init_107 : decode cX9_init 107 = .ok (.iastore, 1) := by decide +kernel
theorem dX9_init_108 : decode cX9_init 108 = .ok (.putfield 16, 3) := by decide +kernel
theorem dX9_init_111 : decode cX9_init 111 = .ok (.aload_n 0, 1) := by decide +kernel
theorem dX9_init_112 : decode cX9_init 112 = .ok (.bipush 9, 2) := by decide +kernel
theorem dX9_init_114 : decode cX9_init 114 = .ok (.newarray .int, 2) := by decide +kernel
theorem dX9_init_116 : decode cX9_init 116 = .ok (.dup, 1) := by decide +kernel
theorem dX9_init_117 : decode cX9_init 117 = .ok (.iconst 0, 1) := by decide +kernel
theorem dX9_init_118 : decode cX9_init 118 = .ok (.iconst 1, 1) := by decide +kernel
theorem dX9_init_119 : decode cX9_init 119 = .ok (.iastore, 1) := by decide +kernel
theorem dX9_init_120 : decode cX9_init 120 = .ok (.dup, 1) := by decide +kernel
theorem dX9_init_121 : decode cX9_init 121 = .ok (.iconst 1, 1) := by decide +kernel
theorem dX9_init_122 : decode cX9_init 122 = .ok (.iconst 1, 1) := by decide +kernel
theorem dX9_init_123 : decode cX9_init 123 = .ok (.iastore, 1) := by decide +kernel
theorem dX9_init_124 : decode cX9_init 124 = .ok (.dup, 1) := by decide +kernel
theorem dX9_init_125 : decode cX9_init 125 = .ok (.iconst 2, 1) := by decide +kernel
theorem dX9_init_126 : decode cX9_init 126 = .ok (.iconst 0, 1) := by decide +kernel
theorem dX9_init_127 : decode cX9_init 127 = .ok (.iastore, 1) := by decide +kernel
theorem dX9_init_128 : decode cX9_init 128 = .ok (.dup, 1) := by decide +kernel
theorem dX9_init_129 : decode cX9_init 129 = .ok (.iconst 3, 1) := by decide +kernel
theorem dX9_init_130 : decode cX9_init 130 = .ok (.iconst 1, 1) := by decide +kernel
theorem dX9_init_131 : decode cX9_init 131 = .ok (.iastore, 1) := by decide +kernel
theorem dX9_init_132 : decode cX9_init 132 = .ok (.dup, 1) := by decide +kernel
theorem dX9_init_133 : decode cX9_init 133 = .ok (.iconst 4, 1) := by decide +kernel
theorem dX9_init_134 : decode cX9_init 134 = .ok (.iconst 0, 1) := by decide +kernel
theorem dX9_init_135 : decode cX9_init 135 = .ok (.iastore, 1) := by decide +kernel
theorem dX9_init_136 : decode cX9_init 136 = .ok (.dup, 1) := by decide +kernel
theorem dX9_init_137 : decode cX9_init 137 = .ok (.iconst 5, 1) := by decide +kernel
theorem dX9_init_138 : decode cX9_init 138 = .ok (.iconst 1, 1) := by decide +kernel
theorem dX9_init_139 : decode cX9_init 139 = .ok (.iastore, 1) := by decide +kernel
theorem dX9_init_140 : decode cX9_init 140 = .ok (.dup, 1) := by decide +kernel
theorem dX9_init_141 : decode cX9_init 141 = .ok (.bipush 6, 2) := by decide +kernel
theorem dX9_init_143 : decode cX9_init 143 = .ok (.iconst 0, 1) := by decide +kernel
theorem dX9_init_144 : decode cX9_init 144 = .ok (.iastore, 1) := by decide +kernel
theorem dX9_init_145 : decode cX9_init 145 = .ok (.dup, 1) := by decide +kernel
theorem dX9_init_146 : decode cX9_init 146 = .ok (.bipush 7, 2) := by decide +kernel
theorem dX9_init_148 : decode cX9_init 148 = .ok (.iconst 0, 1) := by decide +kernel
theorem dX9_init_149 : decode cX9_init 149 = .ok (.iastore, 1) := by decide +kernel
theorem dX9_init_150 : decode cX9_init 150 = .ok (.dup, 1) := by decide +kernel
theorem dX9_init_151 : decode cX9_init 151 = .ok (.bipush 8, 2) := by decide +kernel
theorem dX9_init_153 : decode cX9_init 153 = .ok (.iconst 1, 1) := by decide +kernel
theorem dX9_init_154 : decode cX9_init 154 = .ok (.iastore, 1) := by decide +kernel
theorem dX9_init_155 : decode cX9_init 155 = .ok (.putfield 19, 3) := by decide +kernel
theorem dX9_init_158 : decode cX9_init 158 = .ok (.aload_n 0, 1) := by decide +kernel
theorem dX9_init_159 : decode cX9_init 159 = .ok (.bipush 9, 2) := by decide +kernel
theorem dX9_init_161 : decode cX9_init 161 = .ok (.newarray .int, 2) := by decide +kernel
theorem dX9_init_163 : decode cX9_init 163 = .ok (.dup, 1) := by decide +kernel
theorem dX9_init_164 : decode cX9_init 164 = .ok (.iconst 0, 1) := by decide +kernel
theorem dX9_init_165 : decode cX9_init 165 = .ok (.sipush 9999, 3) := by decide +kernel
theorem dX9_init_168 : decode cX9_init 168 = .ok (.iastore, 1) := by decide +kernel
theorem dX9_init_169 : decode cX9_init 169 = .ok (.dup, 1) := by decide +kernel
theorem dX9_init_170 : decode cX9_init 170 = .ok (.iconst 1, 1) := by decide +kernel
theorem dX9_init_171 : decode cX9_init 171 = .ok (.bipush 60, 2) := by decide +kernel
theorem dX9_init_173 : decode cX9_init 173 = .ok (.iastore, 1) := by decide +kernel
theorem dX9_init_174 : decode cX9_init 174 = .ok (.dup, 1) := by decide +kernel
theorem dX9_init_175 : decode cX9_init 175 = .ok (.iconst 2, 1) := by decide +kernel
theorem dX9_init_176 : decode cX9_init 176 = .ok (.iconst 3, 1) := by decide +kernel
theorem dX9_init_177 : decode cX9_init 177 = .ok (.iastore, 1) := by decide +kernel
theorem dX9_init_178 : decode cX9_init 178 = .ok (.dup, 1) := by decide +kernel
theorem dX9_init_179 : decode cX9_init 179 = .ok (.iconst 3, 1) := by decide +kernel
theorem dX9_init_180 : decode cX9_init 180 = .ok (.bipush 9, 2) := by decide +kernel
theorem dX9_init_182 : decode cX9_init 182 = .ok (.iastore, 1) := by decide +kernel
theorem dX9_init_183 : decode cX9_init 183 = .ok (.dup, 1) := by decide +kernel
theorem dX9_init_184 : decode cX9_init 184 = .ok (.iconst 4, 1) := by decide +kernel
theorem dX9_init_185 : decode cX9_init 185 = .ok (.bipush 99, 2) := by decide +kernel
theorem dX9_init_187 : decode cX9_init 187 = .ok (.iastore, 1) := by decide +kernel
theorem dX9_init_188 : decode cX9_init 188 = .ok (.dup, 1) := by decide +kernel
theorem dX9_init_189 : decode cX9_init 189 = .ok (.iconst 5, 1) := by decide +kernel
theorem dX9_init_190 : decode cX9_init 190 = .ok (.bipush 20, 2) := by decide +kernel
theorem dX9_init_192 : decode cX9_init 192 = .ok (.iastore, 1) := by decide +kernel
theorem dX9_init_193 : decode cX9_init 193 = .ok (.dup, 1) := by decide +kernel
theorem dX9_init_194 : decode cX9_init 194 = .ok (.bipush 6, 2) := by decide +kernel
theorem dX9_init_196 : decode cX9_init 196 = .ok (.ldc 22, 2) := by decide +kernel
theorem dX9_init_198 : decode cX9_init 198 = .ok (.iastore, 1) := by decide +kernel
theorem dX9_init_199 : decode cX9_init 199 = .ok (.dup, 1) := by decide +kernel
theorem dX9_init_200 : decode cX9_init 200 = .ok (.bipush 7, 2) := by decide +kernel
theorem dX9_init_202 : decode cX9_init 202 = .ok (.bipush 9, 2) := by decide +kernel
theorem dX9_init_204 : decode cX9_init 204 = .ok (.iastore, 1) := by decide +kernel
theorem dX9_init_205 : decode cX9_init 205 = .ok (.dup, 1) := by decide +kernel
theorem dX9_init_206 : decode cX9_init 206 = .ok (.bipush 8, 2) := by decide +kernel
theorem dX9_init_208 : decode cX9_init 208 = .ok (.bipush 9, 2) := by decide +kernel
theorem dX9_init_210 : decode cX9_init 210 = .ok (.iastore, 1) := by decide +kernel
theorem dX9_init_211 : decode cX9_init 211 = .ok (.putfield 23, 3) := by decide +kernel
theorem dX9_init_214 : decode cX9_init 214 = .ok (.aload_n 0, 1) := by decide +kernel
theorem dX9_init_215 : decode cX9_init 215 = .ok (.bipush 9, 2) := by decide +kernel
theorem dX9_init_217 : decode cX9_init 217 = .ok (.newarray .int, 2) := by decide +kernel
theorem dX9_init_219 : decode cX9_init 219 = .ok (.putfield 26, 3) := by decide +kernel
theorem dX9_init_222 : decode cX9_init 222 = .ok (.aload_n 0, 1) := by decide +kernel
theorem dX9_init_223 : decode cX9_init 223 = .ok (.bipush 40, 2) := by decide +kernel
theorem dX9_init_225 : decode cX9_init 225 = .ok (.newarray .int, 2) := by decide +kernel
theorem dX9_init_227 : decode cX9_init 227 = .ok (.putfield 29, 3) := by decide +kernel
theorem dX9_init_230 : decode cX9_init 230 = .ok (.aload_n 0, 1) := by decide +kernel
theorem dX9_init_231 : decode cX9_init 231 = .ok (.bipush 6, 2) := by decide +kernel
theorem dX9_init_233 : decode cX9_init 233 = .ok (.newarray .int, 2) := by decide +kernel
theorem dX9_init_235 : decode cX9_init 235 = .ok (.putfield 32, 3) := by decide +kernel
theorem dX9_init_238 : decode cX9_init 238 = .ok (.aload_n 0, 1) := by decide +kernel
theorem dX9_init_239 : decode cX9_init 239 = .ok (.bipush 6, 2) := by decide +kernel
theorem dX9_init_241 : decode cX9_init 241 = .ok (.newarray .int, 2) := by decide +kernel
theorem dX9_init_243 : decode cX9_init 243 = .ok (.putfield 35, 3) := by decide +kernel
theorem dX9_init_246 : decode cX9_init 246 = .ok (.aload_n 0, 1) := by decide +kernel
theorem dX9_init_247 : decode cX9_init 247 = .ok (.sipush 2406, 3) := by decide +kernel
theorem dX9_init_250 : decode cX9_init 250 = .ok (.newarray .int, 2) := by decide +kernel
theorem dX9_init_252 : decode cX9_init 252 = .ok (.putfield 38, 3) := by decide +kernel
theorem dX9_init_255 : decode cX9_init 255 = .ok (.aload_n 0, 1) := by decide +kernel
theorem dX9_init_256 : decode cX9_init 256 = .ok (.iconst 1, 1) := by decide +kernel
theorem dX9_init_257 : decode cX9_init 257 = .ok (.putfield 41, 3) := by decide +kernel
theorem dX9_init_260 : decode cX9_init 260 = .ok (.aload_n 0, 1) := by decide +kernel
theorem dX9_init_261 : decode cX9_init 261 = .ok (.bipush 100, 2) := by decide +kernel
theorem dX9_init_263 : decode cX9_init 263 = .ok (.newarray .int, 2) := by decide +kernel
theorem dX9_init_265 : decode cX9_init 265 = .ok (.putfield 45, 3) := by decide +kernel
theorem dX9_init_268 : decode cX9_init 268 = .ok (.aload_n 0, 1) := by decide +kernel
theorem dX9_init_269 : decode cX9_init 269 = .ok (.bipush 100, 2) := by decide +kernel
theorem dX9_init_271 : decode cX9_init 271 = .ok (.newarray .int, 2) := by decide +kernel
theorem dX9_init_273 : decode cX9_init 273 = .ok (.putfield 48, 3) := by decide +kernel
theorem dX9_init_276 : decode cX9_init 276 = .ok (.aload_n 0, 1) := by decide +kernel
theorem dX9_init_277 : decode cX9_init 277 = .ok (.bipush 100, 2) := by decide +kernel
theorem dX9_init_279 : decode cX9_init 279 = .ok (.newarray .int, 2) := by decide +kernel
theorem dX9_init_281 : decode cX9_init 281 = .ok (.putfield 51, 3) := by decide +kernel
theorem dX9_init_284 : decode cX9_init 284 = .ok (.aload_n 0, 1) := by decide +kernel
theorem dX9_init_285 : decode cX9_init 285 = .ok (.bipush 100, 2) := by decide +kernel
theorem dX9_init_287 : decode cX9_init 287 = .ok (.newarray .int, 2) := by decide +kernel
theorem dX9_init_289 : decode cX9_init 289 = .ok (.putfield 54, 3) := by decide +kernel
theorem dX9_init_292 : decode cX9_init 292 = .ok (.aload_n 0, 1) := by decide +kernel
theorem dX9_init_293 : decode cX9_init 293 = .ok (.bipush 100, 2) := by decide +kernel
theorem dX9_init_295 : decode cX9_init 295 = .ok (.newarray .int, 2) := by decide +kernel
theorem dX9_init_297 : decode cX9_init 297 = .ok (.putfield 57, 3) := by decide +kernel
theorem dX9_init_300 : decode cX9_init 300 = .ok (.aload_n 0, 1) := by decide +kernel
theorem dX9_init_301 : decode cX9_init 301 = .ok (.bipush 100, 2) := by decide +kernel
theorem dX9_init_303 : decode cX9_init 303 = .ok (.newarray .int, 2) := by decide +kernel
theorem dX9_init_305 : decode cX9_init 305 = .ok (.putfield 60, 3) := by decide +kernel
theorem dX9_init_308 : decode cX9_init 308 = .ok (.aload_n 0, 1) := by decide +kernel
theorem dX9_init_309 : decode cX9_init 309 = .ok (.bipush 100, 2) := by decide +kernel
theorem dX9_init_311 : decode cX9_init 311 = .ok (.newarray .int, 2) := by decide +kernel
theorem dX9_init_313 : decode cX9_init 313 = .ok (.putfield 63, 3) := by decide +kernel
theorem dX9_init_316 : decode cX9_init 316 = .ok (.aload_n 0, 1) := by decide +kernel
theorem dX9_init_317 : decode cX9_init 317 = .ok (.bipush 100, 2) := by decide +kernel
theorem dX9_init_319 : decode cX9_init 319 = .ok (.newarray .int, 2) := by decide +kernel
theorem dX9_init_321 : decode cX9_init 321 = .ok (.putfield 66, 3) := by decide +kernel
theorem dX9_init_324 : decode cX9_init 324 = .ok (.aload_n 0, 1) := by decide +kernel
theorem dX9_init_325 : decode cX9_init 325 = .ok (.bipush 100, 2) := by decide +kernel
theorem dX9_init_327 : decode cX9_init 327 = .ok (.newarray .int, 2) := by decide +kernel
theorem dX9_init_329 : decode cX9_init 329 = .ok (.putfield 69, 3) := by decide +kernel
theorem dX9_init_332 : decode cX9_init 332 = .ok (.aload_n 0, 1) := by decide +kernel
theorem dX9_init_333 : decode cX9_init 333 = .ok (.bipush 100, 2) := by decide +kernel
theorem dX9_init_335 : decode cX9_init 335 = .ok (.newarray .int, 2) := by decide +kernel
theorem dX9_init_337 : decode cX9_init 337 = .ok (.putfield 72, 3) := by decide +kernel
theorem dX9_init_340 : decode cX9_init 340 = .ok (.aload_n 0, 1) := by decide +kernel
theorem dX9_init_341 : decode cX9_init 341 = .ok (.bipush 100, 2) := by decide +kernel
theorem dX9_init_343 : decode cX9_init 343 = .ok (.newarray .int, 2) := by decide +kernel
theorem dX9_init_345 : decode cX9_init 345 = .ok (.putfield 75, 3) := by decide +kernel
theorem dX9_init_348 : decode cX9_init 348 = .ok (.aload_n 0, 1) := by decide +kernel
theorem dX9_init_349 : decode cX9_init 349 = .ok (.bipush 100, 2) := by decide +kernel
theorem dX9_init_351 : decode cX9_init 351 = .ok (.newarray .int, 2) := by decide +kernel
theorem dX9_init_353 : decode cX9_init 353 = .ok (.putfield 78, 3) := by decide +kernel
theorem dX9_init_356 : decode cX9_init 356 = .ok (.aload_n 0, 1) := by decide +kernel
theorem dX9_init_357 : decode cX9_init 357 = .ok (.bipush 100, 2) := by decide +kernel
theorem dX9_init_359 : decode cX9_init 359 = .ok (.newarray .int, 2) := by decide +kernel
theorem dX9_init_361 : decode cX9_init 361 = .ok (.putfield 81, 3) := by decide +kernel
theorem dX9_init_364 : decode cX9_init 364 = .ok (.aload_n 0, 1) := by decide +kernel
theorem dX9_init_365 : decode cX9_init 365 = .ok (.bipush 100, 2) := by decide +kernel
theorem dX9_init_367 : decode cX9_init 367 = .ok (.newarray .int, 2) := by decide +kernel
theorem dX9_init_369 : decode cX9_init 369 = .ok (.putfield 84, 3) := by decide +kernel
theorem dX9_init_372 : decode cX9_init 372 = .ok (.aload_n 0, 1) := by decide +kernel
theorem dX9_init_373 : decode cX9_init 373 = .ok (.sipush 300, 3) := by decide +kernel
theorem dX9_init_376 : decode cX9_init 376 = .ok (.newarray .int, 2) := by decide +kernel
theorem dX9_init_378 : decode cX9_init 378 = .ok (.putfield 87, 3) := by decide +kernel
theorem dX9_init_381 : decode cX9_init 381 = .ok (.aload_n 0, 1) := by decide +kernel
theorem dX9_init_382 : decode cX9_init 382 = .ok (.sipush 600, 3) := by decide +kernel
theorem dX9_init_385 : decode cX9_init 385 = .ok (.newarray .int, 2) := by decide +kernel
theorem dX9_init_387 : decode cX9_init 387 = .ok (.putfield 90, 3) := by decide +kernel
theorem dX9_init_390 : decode cX9_init 390 = .ok (.aload_n 0, 1) := by decide +kernel
theorem dX9_init_391 : decode cX9_init 391 = .ok (.sipush 300, 3) := by decide +kernel
theorem dX9_init_394 : decode cX9_init 394 = .ok (.newarray .int, 2) := by decide +kernel
theorem dX9_init_396 : decode cX9_init 396 = .ok (.putfield 93, 3) := by decide +kernel
theorem dX9_init_399 : decode cX9_init 399 = .ok (.aload_n 0, 1) := by decide +kernel
theorem dX9_init_400 : decode cX9_init 400 = .ok (.sipush 300, 3) := by decide +kernel
theorem dX9_init_403 : decode cX9_init 403 = .ok (.newarray .int, 2) := by decide +kernel
theorem dX9_init_405 : decode cX9_init 405 = .ok (.putfield 96, 3) := by decide +kernel
theorem dX9_init_408 : decode cX9_init 408 = .ok (.aload_n 0, 1) := by decide +kernel
theorem dX9_init_409 : decode cX9_init 409 = .ok (.sipush 300, 3) := by decide +kernel
theorem dX9_init_412 : decode cX9_init 412 = .ok (.newarray .int, 2) := by decide +kernel
theorem dX9_init_414 : decode cX9_init 414 = .ok (.putfield 99, 3) := by decide +kernel
theorem dX9_init_417 : decode cX9_init 417 = .ok (.aload_n 0, 1) := by decide +kernel
theorem dX9_init_418 : decode cX9_init 418 = .ok (.bipush 40, 2) := by decide +kernel
theorem dX9_init_420 : decode cX9_init 420 = .ok (.newarray .int, 2) := by decide +kernel
theorem dX9_init_422 : decode cX9_init 422 = .ok (.putfield 102, 3) := by decide +kernel
theorem dX9_init_425 : decode cX9_init 425 = .ok (.return_, 1) := by decide +kernel
theorem dX9_thrown_0 : decode cX9_thrown 0 = .ok (.aload_n 0, 1) := by decide +kernel
theorem dX9_thrown_1 : decode cX9_thrown 1 = .ok (.getfield 105, 3) := by decide +kernel
theorem dX9_thrown_4 : decode cX9_thrown 4 = .ok (.ireturn, 1) := by decide +kernel
theorem dX9_refuse_0 : decode cX9_refuse 0 = .ok (.aload_n 0, 1) := by decide +kernel
theorem dX9_refuse_1 : decode cX9_refuse 1 = .ok (.iconst 1, 1) := by decide +kernel
theorem dX9_refuse_2 : decode cX9_refuse 2 = .ok (.putfield 105, 3) := by decide +kernel
theorem dX9_refuse_5 : decode cX9_refuse 5 = .ok (.iconst 0, 1) := by decide +kernel
theorem dX9_refuse_6 : decode cX9_refuse 6 = .ok (.ireturn, 1) := by decide +kernel
theorem dX9_come_0 : decode cX9_come 0 = .ok (.bipush 24, 2) := by decide +kernel
theorem dX9_come_2 : decode cX9_come 2 = .ok (.istore_n 2, 1) := by decide +kernel
theorem dX9_come_3 : decode cX9_come 3 = .ok (.iload_n 2, 1) := by decide +kernel
theorem dX9_come_4 : decode cX9_come 4 = .ok (.ifCond .lt 35, 3) := by decide +kernel
theorem dX9_come_7 : decode cX9_come 7 = .ok (.aload_n 0, 1) := by decide +kernel
theorem dX9_come_8 : decode cX9_come 8 = .ok (.getfield 7, 3) := by decide +kernel
theorem dX9_come_11 : decode cX9_come 11 = .ok (.aload_n 0, 1) := by decide +kernel
theorem dX9_come_12 : decode cX9_come 12 = .ok (.getfield 108, 3) := by decide +kernel
theorem dX9_come_15 : decode cX9_come 15 = .ok (.iload_n 1, 1) := by decide +kernel
theorem dX9_come_16 : decode cX9_come 16 = .ok (.iload_n 2, 1) := by decide +kernel
theorem dX9_come_17 : decode cX9_come 17 = .ok (.iushr, 1) := by decide +kernel
theorem dX9_come_18 : decode cX9_come 18 = .ok (.sipush 255, 3) := by decide +kernel
theorem dX9_come_21 : decode cX9_come 21 = .ok (.iand, 1) := by decide +kernel
theorem dX9_come_22 : decode cX9_come 22 = .ok (.iastore, 1) := by decide +kernel
theorem dX9_come_23 : decode cX9_come 23 = .ok (.aload_n 0, 1) := by decide +kernel
theorem dX9_come_24 : decode cX9_come 24 = .ok (.dup, 1) := by decide +kernel
theorem dX9_come_25 : decode cX9_come 25 = .ok (.getfield 108, 3) := by decide +kernel
theorem dX9_come_28 : decode cX9_come 28 = .ok (.iconst 1, 1) := by decide +kernel
theorem dX9_come_29 : decode cX9_come 29 = .ok (.iadd, 1) := by decide +kernel
theorem dX9_come_30 : decode cX9_come 30 = .ok (.putfield 108, 3) := by decide +kernel
theorem dX9_come_33 : decode cX9_come 33 = .ok (.iinc 2 (-8), 3) := by decide +kernel
theorem dX9_come_36 : decode cX9_come 36 = .ok (.goto (-33), 3) := by decide +kernel
theorem dX9_come_39 : decode cX9_come 39 = .ok (.return_, 1) := by decide +kernel
theorem dX9_feed_0 : decode cX9_feed 0 = .ok (.aload_n 0, 1) := by decide +kernel
theorem dX9_feed_1 : decode cX9_feed 1 = .ok (.iconst 0, 1) := by decide +kernel
theorem dX9_feed_2 : decode cX9_feed 2 = .ok (.putfield 105, 3) := by decide +kernel
theorem dX9_feed_5 : decode cX9_feed 5 = .ok (.aload_n 0, 1) := by decide +kernel
theorem dX9_feed_6 : decode cX9_feed 6 = .ok (.getfield 108, 3) := by decide +kernel
theorem dX9_feed_9 : decode cX9_feed 9 = .ok (.bipush 20, 2) := by decide +kernel
theorem dX9_feed_11 : decode cX9_feed 11 = .ok (.iadd, 1) := by decide +kernel
theorem dX9_feed_12 : decode cX9_feed 12 = .ok (.sipush 320, 3) := by decide +kernel
theorem dX9_feed_15 : decode cX9_feed 15 = .ok (.if_icmp .le 5, 3) := by decide +kernel
theorem dX9_feed_18 : decode cX9_feed 18 = .ok (.iconst (-1), 1) := by decide +kernel
theorem dX9_feed_19 : decode cX9_feed 19 = .ok (.ireturn, 1) := by decide +kernel
theorem dX9_feed_20 : decode cX9_feed 20 = .ok (.aload_n 0, 1) := by decide +kernel
theorem dX9_feed_21 : decode cX9_feed 21 = .ok (.iload_n 1, 1) := by decide +kernel
theorem dX9_feed_22 : decode cX9_feed 22 = .ok (.invokevirtual 111, 3) := by decide +kernel
theorem dX9_feed_25 : decode cX9_feed 25 = .ok (.aload_n 0, 1) := by decide +kernel
theorem dX9_feed_26 : decode cX9_feed 26 = .ok (.iload_n 2, 1) := by decide +kernel
theorem dX9_feed_27 : decode cX9_feed 27 = .ok (.invokevirtual 111, 3) := by decide +kernel
theorem dX9_feed_30 : decode cX9_feed 30 = .ok (.aload_n 0, 1) := by decide +kernel
theorem dX9_feed_31 : decode cX9_feed 31 = .ok (.iload_n 3, 1) := by decide +kernel
theorem dX9_feed_32 : decode cX9_feed 32 = .ok (.invokevirtual 111, 3) := by decide +kernel
theorem dX9_feed_35 : decode cX9_feed 35 = .ok (.aload_n 0, 1) := by decide +kernel
theorem dX9_feed_36 : decode cX9_feed 36 = .ok (.iload 4, 2) := by decide +kernel
theorem dX9_feed_38 : decode cX9_feed 38 = .ok (.invokevirtual 111, 3) := by decide +kernel
theorem dX9_feed_41 : decode cX9_feed 41 = .ok (.aload_n 0, 1) := by decide +kernel
theorem dX9_feed_42 : decode cX9_feed 42 = .ok (.iload 5, 2) := by decide +kernel
theorem dX9_feed_44 : decode cX9_feed 44 = .ok (.invokevirtual 111, 3) := by decide +kernel
theorem dX9_feed_47 : decode cX9_feed 47 = .ok (.aload_n 0, 1) := by decide +kernel
theorem dX9_feed_48 : decode cX9_feed 48 = .ok (.getfield 108, 3) := by decide +kernel
theorem dX9_feed_51 : decode cX9_feed 51 = .ok (.ireturn, 1) := by decide +kernel
theorem dX9_end_0 : decode cX9_end 0 = .ok (.aload_n 0, 1) := by decide +kernel
theorem dX9_end_1 : decode cX9_end 1 = .ok (.iconst 0, 1) := by decide +kernel
theorem dX9_end_2 : decode cX9_end 2 = .ok (.putfield 105, 3) := by decide +kernel
theorem dX9_end_5 : decode cX9_end 5 = .ok (.iload_n 1, 1) := by decide +kernel
theorem dX9_end_6 : decode cX9_end 6 = .ok (.ifCond .lt 11, 3) := by decide +kernel
theorem dX9_end_9 : decode cX9_end 9 = .ok (.iload_n 1, 1) := by decide +kernel
theorem dX9_end_10 : decode cX9_end 10 = .ok (.aload_n 0, 1) := by decide +kernel
theorem dX9_end_11 : decode cX9_end 11 = .ok (.getfield 108, 3) := by decide +kernel
theorem dX9_end_14 : decode cX9_end 14 = .ok (.if_icmp .le 5, 3) := by decide +kernel
theorem dX9_end_17 : decode cX9_end 17 = .ok (.iconst 0, 1) := by decide +kernel
theorem dX9_end_18 : decode cX9_end 18 = .ok (.ireturn, 1) := by decide +kernel
theorem dX9_end_19 : decode cX9_end 19 = .ok (.aload_n 0, 1) := by decide +kernel
theorem dX9_end_20 : decode cX9_end 20 = .ok (.iload_n 1, 1) := by decide +kernel
theorem dX9_end_21 : decode cX9_end 21 = .ok (.putfield 108, 3) := by decide +kernel
theorem dX9_end_24 : decode cX9_end 24 = .ok (.iconst 1, 1) := by decide +kernel
theorem dX9_end_25 : decode cX9_end 25 = .ok (.ireturn, 1) := by decide +kernel
theorem dX9_at_0 : decode cX9_at 0 = .ok (.iload_n 1, 1) := by decide +kernel
theorem dX9_at_1 : decode cX9_at 1 = .ok (.aload_n 0, 1) := by decide +kernel
theorem dX9_at_2 : decode cX9_at 2 = .ok (.getfield 115, 3) := by decide +kernel
theorem dX9_at_5 : decode cX9_at 5 = .ok (.if_icmp .ge 12, 3) := by decide +kernel
theorem dX9_at_8 : decode cX9_at 8 = .ok (.aload_n 0, 1) := by decide +kernel
theorem dX9_at_9 : decode cX9_at 9 = .ok (.getfield 7, 3) := by decide +kernel
theorem dX9_at_12 : decode cX9_at 12 = .ok (.iload_n 1, 1) := by decide +kernel
theorem dX9_at_13 : decode cX9_at 13 = .ok (.iaload, 1) := by decide +kernel
theorem dX9_at_14 : decode cX9_at 14 = .ok (.goto 4, 3) := by decide +kernel
theorem dX9_at_17 : decode cX9_at 17 = .ok (.iconst 0, 1) := by decide +kernel
theorem dX9_at_18 : decode cX9_at 18 = .ok (.ireturn, 1) := by decide +kernel
theorem dX9_isDigit_0 : decode cX9_isDigit 0 = .ok (.iload_n 0, 1) := by decide +kernel
theorem dX9_isDigit_1 : decode cX9_isDigit 1 = .ok (.bipush 48, 2) := by decide +kernel
theorem dX9_isDigit_3 : decode cX9_isDigit 3 = .ok (.if_icmp .lt 13, 3) := by decide +kernel
theorem dX9_isDigit_6 : decode cX9_isDigit 6 = .ok (.iload_n 0, 1) := by decide +kernel
theorem dX9_isDigit_7 : decode cX9_isDigit 7 = .ok (.bipush 57, 2) := by decide +kernel
theorem dX9_isDigit_9 : decode cX9_isDigit 9 = .ok (.if_icmp .gt 7, 3) := by decide +kernel
theorem dX9_isDigit_12 : decode cX9_isDigit 12 = .ok (.iconst 1, 1) := by decide +kernel
theorem dX9_isDigit_13 : decode cX9_isDigit 13 = .ok (.goto 4, 3) := by decide +kernel
theorem dX9_isDigit_16 : decode cX9_isDigit 16 = .ok (.iconst 0, 1) := by decide +kernel
theorem dX9_isDigit_17 : decode cX9_isDigit 17 = .ok (.ireturn, 1) := by decide +kernel
theorem dX9_isLetter_0 : decode cX9_isLetter 0 = .ok (.iload_n 0, 1) := by decide +kernel
theorem dX9_isLetter_1 : decode cX9_isLetter 1 = .ok (.bipush 97, 2) := by decide +kernel
theorem dX9_isLetter_3 : decode cX9_isLetter 3 = .ok (.if_icmp .lt 13, 3) := by decide +kernel
theorem dX9_isLetter_6 : decode cX9_isLetter 6 = .ok (.iload_n 0, 1) := by decide +kernel
theorem dX9_isLetter_7 : decode cX9_isLetter 7 = .ok (.bipush 122, 2) := by decide +kernel
theorem dX9_isLetter_9 : decode cX9_isLetter 9 = .ok (.if_icmp .gt 7, 3) := by decide +kernel
theorem dX9_isLetter_12 : decode cX9_isLetter 12 = .ok (.iconst 1, 1) := by decide +kernel
theorem dX9_isLetter_13 : decode cX9_isLetter 13 = .ok (.goto 4, 3) := by decide +kernel
theorem dX9_isLetter_16 : decode cX9_isLetter 16 = .ok (.iconst 0, 1) := by decide +kernel
theorem dX9_isLetter_17 : decode cX9_isLetter 17 = .ok (.ireturn, 1) := by decide +kernel
theorem dX9_go_0 : decode cX9_go 0 = .ok (.aload_n 0, 1) := by decide +kernel
theorem dX9_go_1 : decode cX9_go 1 = .ok (.getfield 118, 3) := by decide +kernel
theorem dX9_go_4 : decode cX9_go 4 = .ok (.aload_n 0, 1) := by decide +kernel
theorem dX9_go_5 : decode cX9_go 5 = .ok (.getfield 115, 3) := by decide +kernel
theorem dX9_go_8 : decode cX9_go 8 = .ok (.if_icmp .ge 44, 3) := by decide +kernel
theorem dX9_go_11 : decode cX9_go 11 = .ok (.aload_n 0, 1) := by decide +kernel
theorem dX9_go_12 : decode cX9_go 12 = .ok (.getfield 7, 3) := by decide +kernel
theorem dX9_go_15 : decode cX9_go 15 = .ok (.aload_n 0, 1) := by decide +kernel
theorem dX9_go_16 : decode cX9_go 16 = .ok (.getfield 118, 3) := by decide +kernel
theorem dX9_go_19 : decode cX9_go 19 = .ok (.iaload, 1) := by decide +kernel
theorem dX9_go_20 : decode cX9_go 20 = .ok (.bipush 32, 2) := by decide +kernel
theorem dX9_go_22 : decode cX9_go 22 = .ok (.if_icmp .eq 17, 3) := by decide +kernel
theorem dX9_go_25 : decode cX9_go 25 = .ok (.aload_n 0, 1) := by decide +kernel
theorem dX9_go_26 : decode cX9_go 26 = .ok (.getfield 7, 3) := by decide +kernel
theorem dX9_go_29 : decode cX9_go 29 = .ok (.aload_n 0, 1) := by decide +kernel
theorem dX9_go_30 : decode cX9_go 30 = .ok (.getfield 118, 3) := by decide +kernel
theorem dX9_go_33 : decode cX9_go 33 = .ok (.iaload, 1) := by decide +kernel
theorem dX9_go_34 : decode cX9_go 34 = .ok (.bipush 10, 2) := by decide +kernel
theorem dX9_go_36 : decode cX9_go 36 = .ok (.if_icmp .ne 16, 3) := by decide +kernel
theorem dX9_go_39 : decode cX9_go 39 = .ok (.aload_n 0, 1) := by decide +kernel
theorem dX9_go_40 : decode cX9_go 40 = .ok (.dup, 1) := by decide +kernel
theorem dX9_go_41 : decode cX9_go 41 = .ok (.getfield 118, 3) := by decide +kernel
theorem dX9_go_44 : decode cX9_go 44 = .ok (.iconst 1, 1) := by decide +kernel
theorem dX9_go_45 : decode cX9_go 45 = .ok (.iadd, 1) := by decide +kernel
theorem dX9_go_46 : decode cX9_go 46 = .ok (.putfield 118, 3) := by decide +kernel
theorem dX9_go_49 : decode cX9_go 49 = .ok (.goto (-49), 3) := by decide +kernel
theorem dX9_go_52 : decode cX9_go 52 = .ok (.aload_n 0, 1) := by decide +kernel
theorem dX9_go_53 : decode cX9_go 53 = .ok (.aload_n 0, 1) := by decide +kernel
theorem dX9_go_54 : decode cX9_go 54 = .ok (.getfield 118, 3) := by decide +kernel
theorem dX9_go_57 : decode cX9_go 57 = .ok (.putfield 121, 3) := by decide +kernel
theorem dX9_go_60 : decode cX9_go 60 = .ok (.aload_n 0, 1) := by decide +kernel
theorem dX9_go_61 : decode cX9_go 61 = .ok (.getfield 115, 3) := by decide +kernel
theorem dX9_go_64 : decode cX9_go 64 = .ok (.sipush 300, 3) := by decide +kernel
theorem dX9_go_67 : decode cX9_go 67 = .ok (.if_icmp .le 26, 3) := by decide +kernel
theorem dX9_go_70 : decode cX9_go 70 = .ok (.aload_n 0, 1) := by decide +kernel
theorem dX9_go_71 : decode cX9_go 71 = .ok (.getfield 121, 3) := by decide +kernel
theorem dX9_go_74 : decode cX9_go 74 = .ok (.sipush 300, 3) := by decide +kernel
theorem dX9_go_77 : decode cX9_go 77 = .ok (.if_icmp .lt 16, 3) := by decide +kernel
theorem dX9_go_80 : decode cX9_go 80 = .ok (.aload_n 0, 1) := by decide +kernel
theorem dX9_go_81 : decode cX9_go 81 = .ok (.sipush 300, 3) := by decide +kernel
theorem dX9_go_84 : decode cX9_go 84 = .ok (.putfield 121, 3) := by decide +kernel
theorem dX9_go_87 : decode cX9_go 87 = .ok (.aload_n 0, 1) := by decide +kernel
theorem dX9_go_88 : decode cX9_go 88 = .ok (.iconst 1, 1) := by decide +kernel
theorem dX9_go_89 : decode cX9_go 89 = .ok (.putfield 124, 3) := by decide +kernel
theorem dX9_go_92 : decode cX9_go 92 = .ok (.return_, 1) := by decide +kernel
theorem dX9_go_93 : decode cX9_go 93 = .ok (.aload_n 0, 1) := by decide +kernel
theorem dX9_go_94 : decode cX9_go 94 = .ok (.getfield 118, 3) := by decide +kernel
theorem dX9_go_97 : decode cX9_go 97 = .ok (.aload_n 0, 1) := by decide +kernel
theorem dX9_go_98 : decode cX9_go 98 = .ok (.getfield 115, 3) := by decide +kernel
theorem dX9_go_101 : decode cX9_go 101 = .ok (.if_icmp .lt 9, 3) := by decide +kernel
theorem dX9_go_104 : decode cX9_go 104 = .ok (.aload_n 0, 1) := by decide +kernel
theorem dX9_go_105 : decode cX9_go 105 = .ok (.iconst 0, 1) := by decide +kernel
theorem dX9_go_106 : decode cX9_go 106 = .ok (.putfield 124, 3) := by decide +kernel
theorem dX9_go_109 : decode cX9_go 109 = .ok (.return_, 1) := by decide +kernel
theorem dX9_go_110 : decode cX9_go 110 = .ok (.aload_n 0, 1) := by decide +kernel
theorem dX9_go_111 : decode cX9_go 111 = .ok (.getfield 7, 3) := by decide +kernel
theorem dX9_go_114 : decode cX9_go 114 = .ok (.aload_n 0, 1) := by decide +kernel
theorem dX9_go_115 : decode cX9_go 115 = .ok (.getfield 118, 3) := by decide +kernel
theorem dX9_go_118 : decode cX9_go 118 = .ok (.iaload, 1) := by decide +kernel
theorem dX9_go_119 : decode cX9_go 119 = .ok (.istore_n 1, 1) := by decide +kernel
theorem dX9_go_120 : decode cX9_go 120 = .ok (.iload_n 1, 1) := by decide +kernel
theorem dX9_go_121 : decode cX9_go 121 = .ok (.invokestatic 127, 3) := by decide +kernel
theorem dX9_go_124 : decode cX9_go 124 = .ok (.ifCond .ne 36, 3) := by decide +kernel
theorem dX9_go_127 : decode cX9_go 127 = .ok (.iload_n 1, 1) := by decide +kernel
theorem dX9_go_128 : decode cX9_go 128 = .ok (.invokestatic 131, 3) := by decide +kernel
theorem dX9_go_131 : decode cX9_go 131 = .ok (.ifCond .ne 29, 3) := by decide +kernel
theorem dX9_go_134 : decode cX9_go 134 = .ok (.aload_n 0, 1) := by decide +kernel
theorem dX9_go_135 : decode cX9_go 135 = .ok (.iload_n 1, 1) := by decide +kernel
theorem dX9_go_136 : decode cX9_go 136 = .ok (.bipush 59, 2) := by decide +kernel
theorem dX9_go_138 : decode cX9_go 138 = .ok (.if_icmp .ne 7, 3) := by decide +kernel
theorem dX9_go_141 : decode cX9_go 141 = .ok (.iconst 4, 1) := by decide +kernel
theorem dX9_go_142 : decode cX9_go 142 = .ok (.goto 4, 3) := by decide +kernel
theorem dX9_go_145 : decode cX9_go 145 = .ok (.iconst 1, 1) := by decide +kernel
theorem dX9_go_146 : decode cX9_go 146 = .ok (.putfield 124, 3) := by decide +kernel
theorem dX9_go_149 : decode cX9_go 149 = .ok (.aload_n 0, 1) := by decide +kernel
theorem dX9_go_150 : decode cX9_go 150 = .ok (.dup, 1) := by decide +kernel
theorem dX9_go_151 : decode cX9_go 151 = .ok (.getfield 118, 3) := by decide +kernel
theorem dX9_go_154 : decode cX9_go 154 = .ok (.iconst 1, 1) := by decide +kernel
theorem dX9_go_155 : decode cX9_go 155 = .ok (.iadd, 1) := by decide +kernel
theorem dX9_go_156 : decode cX9_go 156 = .ok (.putfield 118, 3) := by decide +kernel
theorem dX9_go_159 : decode cX9_go 159 = .ok (.return_, 1) := by decide +kernel
theorem dX9_go_160 : decode cX9_go 160 = .ok (.iload_n 1, 1) := by decide +kernel
theorem dX9_go_161 : decode cX9_go 161 = .ok (.invokestatic 127, 3) := by decide +kernel
theorem dX9_go_164 : decode cX9_go 164 = .ok (.istore_n 2, 1) := by decide +kernel
theorem dX9_go_165 : decode cX9_go 165 = .ok (.iconst 1, 1) := by decide +kernel
theorem dX9_go_166 : decode cX9_go 166 = .ok (.istore_n 3, 1) := by decide +kernel
theorem dX9_go_167 : decode cX9_go 167 = .ok (.aload_n 0, 1) := by decide +kernel
theorem dX9_go_168 : decode cX9_go 168 = .ok (.lconst 0, 1) := by decide +kernel
theorem dX9_go_169 : decode cX9_go 169 = .ok (.putfield 134, 3) := by decide +kernel
theorem dX9_go_172 : decode cX9_go 172 = .ok (.aload_n 0, 1) := by decide +kernel
theorem dX9_go_173 : decode cX9_go 173 = .ok (.iconst 0, 1) := by decide +kernel
theorem dX9_go_174 : decode cX9_go 174 = .ok (.putfield 138, 3) := by decide +kernel
theorem dX9_go_177 : decode cX9_go 177 = .ok (.aload_n 0, 1) := by decide +kernel
theorem dX9_go_178 : decode cX9_go 178 = .ok (.aload_n 0, 1) := by decide +kernel
theorem dX9_go_179 : decode cX9_go 179 = .ok (.getfield 118, 3) := by decide +kernel
theorem dX9_go_182 : decode cX9_go 182 = .ok (.invokevirtual 141, 3) := by decide +kernel
theorem dX9_go_185 : decode cX9_go 185 = .ok (.invokestatic 127, 3) := by decide +kernel
theorem dX9_go_188 : decode cX9_go 188 = .ok (.ifCond .ne 17, 3) := by decide +kernel
theorem dX9_go_191 : decode cX9_go 191 = .ok (.aload_n 0, 1) := by decide +kernel
theorem dX9_go_192 : decode cX9_go 192 = .ok (.aload_n 0, 1) := by decide +kernel
theorem dX9_go_193 : decode cX9_go 193 = .ok (.getfield 118, 3) := by decide +kernel
theorem dX9_go_196 : decode cX9_go 196 = .ok (.invokevirtual 141, 3) := by decide +kernel
theorem dX9_go_199 : decode cX9_go 199 = .ok (.invokestatic 131, 3) := by decide +kernel
theorem dX9_go_202 : decode cX9_go 202 = .ok (.ifCond .eq 110, 3) := by decide +kernel
theorem dX9_go_205 : decode cX9_go 205 = .ok (.aload_n 0, 1) := by decide +kernel
theorem dX9_go_206 : decode cX9_go 206 = .ok (.getfield 7, 3) := by decide +kernel
theorem dX9_go_209 : decode cX9_go 209 = .ok (.aload_n 0, 1) := by decide +kernel
theorem dX9_go_210 : decode cX9_go 210 = .ok (.getfield 118, 3) := by decide +kernel
theorem dX9_go_213 : decode cX9_go 213 = .ok (.iaload, 1) := by decide +kernel
theorem dX9_go_214 : decode cX9_go 214 = .ok (.istore 4, 2) := by decide +kernel
theorem dX9_go_216 : decode cX9_go 216 = .ok (.iload_n 3, 1) := by decide +kernel
theorem dX9_go_217 : decode cX9_go 217 = .ok (.ifCond .eq 16, 3) := by decide +kernel
theorem dX9_go_220 : decode cX9_go 220 = .ok (.iload 4, 2) := by decide +kernel
theorem dX9_go_222 : decode cX9_go 222 = .ok (.invokestatic 127, 3) := by decide +kernel
theorem dX9_go_225 : decode cX9_go 225 = .ok (.iload_n 2, 1) := by decide +kernel
theorem dX9_go_226 : decode cX9_go 226 = .ok (.if_icmp .ne 7, 3) := by decide +kernel
theorem dX9_go_229 : decode cX9_go 229 = .ok (.iconst 1, 1) := by decide +kernel
theorem dX9_go_230 : decode cX9_go 230 = .ok (.goto 4, 3) := by decide +kernel
theorem dX9_go_233 : decode cX9_go 233 = .ok (.iconst 0, 1) := by decide +kernel
theorem dX9_go_234 : decode cX9_go 234 = .ok (.istore_n 3, 1) := by decide +kernel
theorem dX9_go_235 : decode cX9_go 235 = .ok (.aload_n 0, 1) := by decide +kernel
theorem dX9_go_236 : decode cX9_go 236 = .ok (.getfield 118, 3) := by decide +kernel
theorem dX9_go_239 : decode cX9_go 239 = .ok (.aload_n 0, 1) := by decide +kernel
theorem dX9_go_240 : decode cX9_go 240 = .ok (.getfield 121, 3) := by decide +kernel
theorem dX9_go_243 : decode cX9_go 243 = .ok (.isub, 1) := by decide +kernel
theorem dX9_go_244 : decode cX9_go 244 = .ok (.bipush 10, 2) := by decide +kernel
theorem dX9_go_246 : decode cX9_go 246 = .ok (.if_icmp .ge 23, 3) := by decide +kernel
theorem dX9_go_249 : decode cX9_go 249 = .ok (.aload_n 0, 1) := by decide +kernel
theorem dX9_go_250 : decode cX9_go 250 = .ok (.ldc2_w 145, 3) := by decide +kernel
theorem dX9_go_253 : decode cX9_go 253 = .ok (.aload_n 0, 1) := by decide +kernel
theorem dX9_go_254 : decode cX9_go 254 = .ok (.getfield 134, 3) := by decide +kernel
theorem dX9_go_257 : decode cX9_go 257 = .ok (.lmul, 1) := by decide +kernel
theorem dX9_go_258 : decode cX9_go 258 = .ok (.iload 4, 2) := by decide +kernel
theorem dX9_go_260 : decode cX9_go 260 = .ok (.i2l, 1) := by decide +kernel
theorem dX9_go_261 : decode cX9_go 261 = .ok (.ladd, 1) := by decide +kernel
theorem dX9_go_262 : decode cX9_go 262 = .ok (.ldc2_w 147, 3) := by decide +kernel
theorem dX9_go_265 : decode cX9_go 265 = .ok (.lsub, 1) := by decide +kernel
theorem dX9_go_266 : decode cX9_go 266 = .ok (.putfield 134, 3) := by decide +kernel
theorem dX9_go_269 : decode cX9_go 269 = .ok (.aload_n 0, 1) := by decide +kernel
theorem dX9_go_270 : decode cX9_go 270 = .ok (.getfield 118, 3) := by decide +kernel
theorem dX9_go_273 : decode cX9_go 273 = .ok (.aload_n 0, 1) := by decide +kernel
theorem dX9_go_274 : decode cX9_go 274 = .ok (.getfield 121, 3) := by decide +kernel
theorem dX9_go_277 : decode cX9_go 277 = .ok (.isub, 1) := by decide +kernel
theorem dX9_go_278 : decode cX9_go 278 = .ok (.iconst 5, 1) := by decide +kernel
theorem dX9_go_279 : decode cX9_go 279 = .ok (.if_icmp .ge 20, 3) := by decide +kernel
theorem dX9_go_282 : decode cX9_go 282 = .ok (.aload_n 0, 1) := by decide +kernel
theorem dX9_go_283 : decode cX9_go 283 = .ok (.bipush 10, 2) := by decide +kernel
theorem dX9_go_285 : decode cX9_go 285 = .ok (.aload_n 0, 1) := by decide +kernel
theorem dX9_go_286 : decode cX9_go 286 = .ok (.getfield 138, 3) := by decide +kernel
theorem dX9_go_289 : decode cX9_go 289 = .ok (.imul, 1) := by decide +kernel
theorem dX9_go_290 : decode cX9_go 290 = .ok (.iload 4, 2) := by decide +kernel
theorem dX9_go_292 : decode cX9_go 292 = .ok (.iadd, 1) := by decide +kernel
theorem dX9_go_293 : decode cX9_go 293 = .ok (.bipush 48, 2) := by decide +kernel
theorem dX9_go_295 : decode cX9_go 295 = .ok (.isub, 1) := by decide +kernel
theorem dX9_go_296 : decode cX9_go 296 = .ok (.putfield 138, 3) := by decide +kernel
theorem dX9_go_299 : decode cX9_go 299 = .ok (.aload_n 0, 1) := by decide +kernel
theorem dX9_go_300 : decode cX9_go 300 = .ok (.dup, 1) := by decide +kernel
theorem dX9_go_301 : decode cX9_go 301 = .ok (.getfield 118, 3) := by decide +kernel
theorem dX9_go_304 : decode cX9_go 304 = .ok (.iconst 1, 1) := by decide +kernel
theorem dX9_go_305 : decode cX9_go 305 = .ok (.iadd, 1) := by decide +kernel
theorem dX9_go_306 : decode cX9_go 306 = .ok (.putfield 118, 3) := by decide +kernel
theorem dX9_go_309 : decode cX9_go 309 = .ok (.goto (-132), 3) := by decide +kernel
theorem dX9_go_312 : decode cX9_go 312 = .ok (.aload_n 0, 1) := by decide +kernel
theorem dX9_go_313 : decode cX9_go 313 = .ok (.getfield 118, 3) := by decide +kernel
theorem dX9_go_316 : decode cX9_go 316 = .ok (.aload_n 0, 1) := by decide +kernel
theorem dX9_go_317 : decode cX9_go 317 = .ok (.getfield 121, 3) := by decide +kernel
theorem dX9_go_320 : decode cX9_go 320 = .ok (.isub, 1) := by decide +kernel
theorem dX9_go_321 : decode cX9_go 321 = .ok (.bipush 10, 2) := by decide +kernel
theorem dX9_go_323 : decode cX9_go 323 = .ok (.if_icmp .le 10, 3) := by decide +kernel
theorem dX9_go_326 : decode cX9_go 326 = .ok (.aload_n 0, 1) := by decide +kernel
theorem dX9_go_327 : decode cX9_go 327 = .ok (.ldc2_w 149, 3) := by decide +kernel
theorem dX9_go_330 : decode cX9_go 330 = .ok (.putfield 134, 3) := by decide +kernel
theorem dX9_go_333 : decode cX9_go 333 = .ok (.aload_n 0, 1) := by decide +kernel
theorem dX9_go_334 : decode cX9_go 334 = .ok (.iload_n 3, 1) := by decide +kernel
theorem dX9_go_335 : decode cX9_go 335 = .ok (.ifCond .eq 20, 3) := by decide +kernel
theorem dX9_go_338 : decode cX9_go 338 = .ok (.iload_n 2, 1) := by decide +kernel
theorem dX9_go_339 : decode cX9_go 339 = .ok (.ifCond .ne 20, 3) := by decide +kernel
theorem dX9_go_342 : decode cX9_go 342 = .ok (.aload_n 0, 1) := by decide +kernel
theorem dX9_go_343 : decode cX9_go 343 = .ok (.getfield 118, 3) := by decide +kernel
theorem dX9_go_346 : decode cX9_go 346 = .ok (.aload_n 0, 1) := by decide +kernel
theorem dX9_go_347 : decode cX9_go 347 = .ok (.getfield 121, 3) := by decide +kernel
theorem dX9_go_350 : decode cX9_go 350 = .ok (.isub, 1) := by decide +kernel
theorem dX9_go_351 : decode cX9_go 351 = .ok (.iconst 5, 1) := by decide +kernel
theorem dX9_go_352 : decode cX9_go 352 = .ok (.if_icmp .le 7, 3) := by decide +kernel
theorem dX9_go_355 : decode cX9_go 355 = .ok (.iconst 1, 1) := by decide +kernel
theorem dX9_go_356 : decode cX9_go 356 = .ok (.goto 12, 3) := by decide +kernel
theorem dX9_go_359 : decode cX9_go 359 = .ok (.iload_n 2, 1) := by decide +kernel
theorem dX9_go_360 : decode cX9_go 360 = .ok (.ifCond .eq 7, 3) := by decide +kernel
theorem dX9_go_363 : decode cX9_go 363 = .ok (.iconst 2, 1) := by decide +kernel
theorem dX9_go_364 : decode cX9_go 364 = .ok (.goto 4, 3) := by decide +kernel
theorem dX9_go_367 : decode cX9_go 367 = .ok (.iconst 3, 1) := by decide +kernel
theorem dX9_go_368 : decode cX9_go 368 = .ok (.putfield 124, 3) := by decide +kernel
theorem dX9_go_371 : decode cX9_go 371 = .ok (.return_, 1) := by decide +kernel
theorem dX9_spelt_0 : decode cX9_spelt 0 = .ok (.ldc2_w 145, 3) := by decide +kernel
theorem dX9_spelt_3 : decode cX9_spelt 3 = .ok (.iload_n 0, 1) := by decide +kernel
theorem dX9_spelt_4 : decode cX9_spelt 4 = .ok (.i2l, 1) := by decide +kernel
theorem dX9_spelt_5 : decode cX9_spelt 5 = .ok (.ldc2_w 147, 3) := by decide +kernel
theorem dX9_spelt_8 : decode cX9_spelt 8 = .ok (.lsub, 1) := by decide +kernel
theorem dX9_spelt_9 : decode cX9_spelt 9 = .ok (.lmul, 1) := by decide +kernel
theorem dX9_spelt_10 : decode cX9_spelt 10 = .ok (.iload_n 1, 1) := by decide +kernel
theorem dX9_spelt_11 : decode cX9_spelt 11 = .ok (.i2l, 1) := by decide +kernel
theorem dX9_spelt_12 : decode cX9_spelt 12 = .ok (.ladd, 1) := by decide +kernel
theorem dX9_spelt_13 : decode cX9_spelt 13 = .ok (.ldc2_w 147, 3) := by decide +kernel
theorem dX9_spelt_16 : decode cX9_spelt 16 = .ok (.lsub, 1) := by decide +kernel
theorem dX9_spelt_17 : decode cX9_spelt 17 = .ok (.lstore 5, 2) := by decide +kernel
theorem dX9_spelt_19 : decode cX9_spelt 19 = .ok (.ldc2_w 145, 3) := by decide +kernel
theorem dX9_spelt_22 : decode cX9_spelt 22 = .ok (.lload 5, 2) := by decide +kernel
theorem dX9_spelt_24 : decode cX9_spelt 24 = .ok (.lmul, 1) := by decide +kernel
theorem dX9_spelt_25 : decode cX9_spelt 25 = .ok (.iload_n 2, 1) := by decide +kernel
theorem dX9_spelt_26 : decode cX9_spelt 26 = .ok (.i2l, 1) := by decide +kernel
theorem dX9_spelt_27 : decode cX9_spelt 27 = .ok (.ladd, 1) := by decide +kernel
theorem dX9_spelt_28 : decode cX9_spelt 28 = .ok (.ldc2_w 147, 3) := by decide +kernel
theorem dX9_spelt_31 : decode cX9_spelt 31 = .ok (.lsub, 1) := by decide +kernel
theorem dX9_spelt_32 : decode cX9_spelt 32 = .ok (.lstore 5, 2) := by decide +kernel
theorem dX9_spelt_34 : decode cX9_spelt 34 = .ok (.iload_n 3, 1) := by decide +kernel
theorem dX9_spelt_35 : decode cX9_spelt 35 = .ok (.ifCond .le 18, 3) := by decide +kernel
theorem dX9_spelt_38 : decode cX9_spelt 38 = .ok (.ldc2_w 145, 3) := by decide +kernel
theorem dX9_spelt_41 : decode cX9_spelt 41 = .ok (.lload 5, 2) := by decide +kernel
theorem dX9_spelt_43 : decode cX9_spelt 43 = .ok (.lmul, 1) := by decide +kernel
theorem dX9_spelt_44 : decode cX9_spelt 44 = .ok (.iload_n 3, 1) := by decide +kernel
theorem dX9_spelt_45 : decode cX9_spelt 45 = .ok (.i2l, 1) := by decide +kernel
theorem dX9_spelt_46 : decode cX9_spelt 46 = .ok (.ladd, 1) := by decide +kernel
theorem dX9_spelt_47 : decode cX9_spelt 47 = .ok (.ldc2_w 147, 3) := by decide +kernel
theorem dX9_spelt_50 : decode cX9_spelt 50 = .ok (.lsub, 1) := by decide +kernel
theorem dX9_spelt_51 : decode cX9_spelt 51 = .ok (.lstore 5, 2) := by decide +kernel
theorem dX9_spelt_53 : decode cX9_spelt 53 = .ok (.iload 4, 2) := by decide +kernel
theorem dX9_spelt_55 : decode cX9_spelt 55 = .ok (.ifCond .le 19, 3) := by decide +kernel
theorem dX9_spelt_58 : decode cX9_spelt 58 = .ok (.ldc2_w 145, 3) := by decide +kernel
theorem dX9_spelt_61 : decode cX9_spelt 61 = .ok (.lload 5, 2) := by decide +kernel
theorem dX9_spelt_63 : decode cX9_spelt 63 = .ok (.lmul, 1) := by decide +kernel
theorem dX9_spelt_64 : decode cX9_spelt 64 = .ok (.iload 4, 2) := by decide +kernel
theorem dX9_spelt_66 : decode cX9_spelt 66 = .ok (.i2l, 1) := by decide +kernel
theorem dX9_spelt_67 : decode cX9_spelt 67 = .ok (.ladd, 1) := by decide +kernel
theorem dX9_spelt_68 : decode cX9_spelt 68 = .ok (.ldc2_w 147, 3) := by decide +kernel
theorem dX9_spelt_71 : decode cX9_spelt 71 = .ok (.lsub, 1) := by decide +kernel
theorem dX9_spelt_72 : decode cX9_spelt 72 = .ok (.lstore 5, 2) := by decide +kernel
theorem dX9_spelt_74 : decode cX9_spelt 74 = .ok (.lload 5, 2) := by decide +kernel
theorem dX9_spelt_76 : decode cX9_spelt 76 = .ok (.lreturn, 1) := by decide +kernel
theorem dX9_ruleAtHand_0 : decode cX9_ruleAtHand 0 = .ok (.aload_n 0, 1) := by decide +kernel
theorem dX9_ruleAtHand_1 : decode cX9_ruleAtHand 1 = .ok (.getfield 124, 3) := by decide +kernel
theorem dX9_ruleAtHand_4 : decode cX9_ruleAtHand 4 = .ok (.iconst 2, 1) := by decide +kernel
theorem dX9_ruleAtHand_5 : decode cX9_ruleAtHand 5 = .ok (.if_icmp .eq 5, 3) := by decide +kernel
theorem dX9_ruleAtHand_8 : decode cX9_ruleAtHand 8 = .ok (.iconst (-1), 1) := by decide +kernel
theorem dX9_ruleAtHand_9 : decode cX9_ruleAtHand 9 = .ok (.ireturn, 1) := by decide +kernel
theorem dX9_ruleAtHand_10 : decode cX9_ruleAtHand 10 = .ok (.aload_n 0, 1) := by decide +kernel
theorem dX9_ruleAtHand_11 : decode cX9_ruleAtHand 11 = .ok (.getfield 134, 3) := by decide +kernel
theorem dX9_ruleAtHand_14 : decode cX9_ruleAtHand 14 = .ok (.bipush 109, 2) := by decide +kernel
theorem dX9_ruleAtHand_16 : decode cX9_ruleAtHand 16 = .ok (.bipush 111, 2) := by decide +kernel
theorem dX9_ruleAtHand_18 : decode cX9_ruleAtHand 18 = .ok (.bipush 115, 2) := by decide +kernel
theorem dX9_ruleAtHand_20 : decode cX9_ruleAtHand 20 = .ok (.bipush 116, 2) := by decide +kernel
theorem dX9_ruleAtHand_22 : decode cX9_ruleAtHand 22 = .ok (.iconst 0, 1) := by decide +kernel
theorem dX9_ruleAtHand_23 : decode cX9_ruleAtHand 23 = .ok (.invokestatic 151, 3) := by decide +kernel
theorem dX9_ruleAtHand_26 : decode cX9_ruleAtHand 26 = .ok (.lcmp, 1) := by decide +kernel
theorem dX9_ruleAtHand_27 : decode cX9_ruleAtHand 27 = .ok (.ifCond .ne 5, 3) := by decide +kernel
theorem dX9_ruleAtHand_30 : decode cX9_ruleAtHand 30 = .ok (.iconst 0, 1) := by decide +kernel
theorem dX9_ruleAtHand_31 : decode cX9_ruleAtHand 31 = .ok (.ireturn, 1) := by decide +kernel
theorem dX9_ruleAtHand_32 : decode cX9_ruleAtHand 32 = .ok (.aload_n 0, 1) := by decide +kernel
theorem dX9_ruleAtHand_33 : decode cX9_ruleAtHand 33 = .ok (.getfield 134, 3) := by decide +kernel
theorem dX9_ruleAtHand_36 : decode cX9_ruleAtHand 36 = .ok (.bipush 119, 2) := by decide +kernel
theorem dX9_ruleAtHand_38 : decode cX9_ruleAtHand 38 = .ok (.bipush 101, 2) := by decide +kernel
theorem dX9_ruleAtHand_40 : decode cX9_ruleAtHand 40 = .ok (.bipush 101, 2) := by decide +kernel
theorem dX9_ruleAtHand_42 : decode cX9_ruleAtHand 42 = .ok (.bipush 107, 2) := by decide +kernel
theorem dX9_ruleAtHand_44 : decode cX9_ruleAtHand 44 = .ok (.bipush 115, 2) := by decide +kernel
theorem dX9_ruleAtHand_46 : decode cX9_ruleAtHand 46 = .ok (.invokestatic 151, 3) := by decide +kernel
theorem dX9_ruleAtHand_49 : decode cX9_ruleAtHand 49 = .ok (.lcmp, 1) := by decide +kernel
theorem dX9_ruleAtHand_50 : decode cX9_ruleAtHand 50 = .ok (.ifCond .ne 5, 3) := by decide +kernel
theorem dX9_ruleAtHand_53 : decode cX9_ruleAtHand 53 = .ok (.iconst 1, 1) := by decide +kernel
theorem dX9_ruleAtHand_54 : decode cX9_ruleAtHand 54 = .ok (.ireturn, 1) := by decide +kernel
theorem dX9_ruleAtHand_55 : decode cX9_ruleAtHand 55 = .ok (.aload_n 0, 1) := by decide +kernel
theorem dX9_ruleAtHand_56 : decode cX9_ruleAtHand 56 = .ok (.getfield 134, 3) := by decide +kernel
theorem dX9_ruleAtHand_59 : decode cX9_ruleAtHand 59 = .ok (.ldc2_w 145, 3) := by decide +kernel
theorem dX9_ruleAtHand_62 : decode cX9_ruleAtHand 62 = .ok (.ldc2_w 145, 3) := by decide +kernel
theorem dX9_ruleAtHand_65 : decode cX9_ruleAtHand 65 = .ok (.ldc2_w 145, 3) := by decide +kernel
theorem dX9_ruleAtHand_68 : decode cX9_ruleAtHand 68 = .ok (.bipush 115, 2) := by decide +kernel
theorem dX9_ruleAtHand_70 : decode cX9_ruleAtHand 70 = .ok (.bipush 117, 2) := by decide +kernel
theorem dX9_ruleAtHand_72 : decode cX9_ruleAtHand 72 = .ok (.bipush 114, 2) := by decide +kernel
theorem dX9_ruleAtHand_74 : decode cX9_ruleAtHand 74 = .ok (.bipush 101, 2) := by decide +kernel
theorem dX9_ruleAtHand_76 : decode cX9_ruleAtHand 76 = .ok (.bipush 116, 2) := by decide +kernel
theorem dX9_ruleAtHand_78 : decode cX9_ruleAtHand 78 = .ok (.invokestatic 151, 3) := by decide +kernel
theorem dX9_ruleAtHand_81 : decode cX9_ruleAtHand 81 = .ok (.lmul, 1) := by decide +kernel
theorem dX9_ruleAtHand_82 : decode cX9_ruleAtHand 82 = .ok (.ldc2_w 155, 3) := by decide +kernel
theorem dX9_ruleAtHand_85 : decode cX9_ruleAtHand 85 = .ok (.ladd, 1) := by decide +kernel
theorem dX9_ruleAtHand_86 : decode cX9_ruleAtHand 86 = .ok (.lmul, 1) := by decide +kernel
theorem dX9_ruleAtHand_87 : decode cX9_ruleAtHand 87 = .ok (.ldc2_w 157, 3) := by decide +kernel
theorem dX9_ruleAtHand_90 : decode cX9_ruleAtHand 90 = .ok (.ladd, 1) := by decide +kernel
theorem dX9_ruleAtHand_91 : decode cX9_ruleAtHand 91 = .ok (.lmul, 1) := by decide +kernel
theorem dX9_ruleAtHand_92 : decode cX9_ruleAtHand 92 = .ok (.ldc2_w 159, 3) := by decide +kernel
theorem dX9_ruleAtHand_95 : decode cX9_ruleAtHand 95 = .ok (.ladd, 1) := by decide +kernel
theorem dX9_ruleAtHand_96 : decode cX9_ruleAtHand 96 = .ok (.lcmp, 1) := by decide +kernel
theorem dX9_ruleAtHand_97 : decode cX9_ruleAtHand 97 = .ok (.ifCond .ne 5, 3) := by decide +kernel
theorem dX9_ruleAtHand_100 : decode cX9_ruleAtHand 100 = .ok (.iconst 2, 1) := by decide +kernel
theorem dX9_ruleAtHand_101 : decode cX9_ruleAtHand 101 = .ok (.ireturn, 1) := by decide +kernel
theorem dX9_ruleAtHand_102 : decode cX9_ruleAtHand 102 = .ok (.aload_n 0, 1) := by decide +kernel
theorem dX9_ruleAtHand_103 : decode cX9_ruleAtHand 103 = .ok (.getfield 134, 3) := by decide +kernel
theorem dX9_ruleAtHand_106 : decode cX9_ruleAtHand 106 = .ok (.ldc2_w 145, 3) := by decide +kernel
theorem dX9_ruleAtHand_109 : decode cX9_ruleAtHand 109 = .ok (.bipush 115, 2) := by decide +kernel
theorem dX9_ruleAtHand_111 : decode cX9_ruleAtHand 111 = .ok (.bipush 116, 2) := by decide +kernel
theorem dX9_ruleAtHand_113 : decode cX9_ruleAtHand 113 = .ok (.bipush 97, 2) := by decide +kernel
theorem dX9_ruleAtHand_115 : decode cX9_ruleAtHand 115 = .ok (.bipush 110, 2) := by decide +kernel
theorem dX9_ruleAtHand_117 : decode cX9_ruleAtHand 117 = .ok (.bipush 100, 2) := by decide +kernel
theorem dX9_ruleAtHand_119 : decode cX9_ruleAtHand 119 = .ok (.invokestatic 151, 3) := by decide +kernel
theorem dX9_ruleAtHand_122 : decode cX9_ruleAtHand 122 = .ok (.lmul, 1) := by decide +kernel
theorem dX9_ruleAtHand_123 : decode cX9_ruleAtHand 123 = .ok (.ldc2_w 159, 3) := by decide +kernel
theorem dX9_ruleAtHand_126 : decode cX9_ruleAtHand 126 = .ok (.ladd, 1) := by decide +kernel
theorem dX9_ruleAtHand_127 : decode cX9_ruleAtHand 127 = .ok (.lcmp, 1) := by decide +kernel
theorem dX9_ruleAtHand_128 : decode cX9_ruleAtHand 128 = .ok (.ifCond .ne 5, 3) := by decide +kernel
theorem dX9_ruleAtHand_131 : decode cX9_ruleAtHand 131 = .ok (.iconst 3, 1) := by decide +kernel
theorem dX9_ruleAtHand_132 : decode cX9_ruleAtHand 132 = .ok (.ireturn, 1) := by decide +kernel
theorem dX9_ruleAtHand_133 : decode cX9_ruleAtHand 133 = .ok (.aload_n 0, 1) := by decide +kernel
theorem dX9_ruleAtHand_134 : decode cX9_ruleAtHand 134 = .ok (.getfield 134, 3) := by decide +kernel
theorem dX9_ruleAtHand_137 : decode cX9_ruleAtHand 137 = .ok (.bipush 108, 2) := by decide +kernel
theorem dX9_ruleAtHand_139 : decode cX9_ruleAtHand 139 = .ok (.bipush 97, 2) := by decide +kernel
theorem dX9_ruleAtHand_141 : decode cX9_ruleAtHand 141 = .ok (.bipush 116, 2) := by decide +kernel
theorem dX9_ruleAtHand_143 : decode cX9_ruleAtHand 143 = .ok (.bipush 101, 2) := by decide +kernel
theorem dX9_ruleAtHand_145 : decode cX9_ruleAtHand 145 = .ok (.iconst 0, 1) := by decide +kernel
theorem dX9_ruleAtHand_146 : decode cX9_ruleAtHand 146 = .ok (.invokestatic 151, 3) := by decide +kernel
theorem dX9_ruleAtHand_149 : decode cX9_ruleAtHand 149 = .ok (.lcmp, 1) := by decide +kernel
theorem dX9_ruleAtHand_150 : decode cX9_ruleAtHand 150 = .ok (.ifCond .ne 5, 3) := by decide +kernel
theorem dX9_ruleAtHand_153 : decode cX9_ruleAtHand 153 = .ok (.iconst 4, 1) := by decide +kernel
theorem dX9_ruleAtHand_154 : decode cX9_ruleAtHand 154 = .ok (.ireturn, 1) := by decide +kernel
theorem dX9_ruleAtHand_155 : decode cX9_ruleAtHand 155 = .ok (.aload_n 0, 1) := by decide +kernel
theorem dX9_ruleAtHand_156 : decode cX9_ruleAtHand 156 = .ok (.getfield 134, 3) := by decide +kernel
theorem dX9_ruleAtHand_159 : decode cX9_ruleAtHand 159 = .ok (.bipush 99, 2) := by decide +kernel
theorem dX9_ruleAtHand_161 : decode cX9_ruleAtHand 161 = .ok (.bipush 97, 2) := by decide +kernel
theorem dX9_ruleAtHand_163 : decode cX9_ruleAtHand 163 = .ok (.bipush 108, 2) := by decide +kernel
theorem dX9_ruleAtHand_165 : decode cX9_ruleAtHand 165 = .ok (.bipush 108, 2) := by decide +kernel
theorem dX9_ruleAtHand_167 : decode cX9_ruleAtHand 167 = .ok (.iconst 0, 1) := by decide +kernel
theorem dX9_ruleAtHand_168 : decode cX9_ruleAtHand 168 = .ok (.invokestatic 151, 3) := by decide +kernel
theorem dX9_ruleAtHand_171 : decode cX9_ruleAtHand 171 = .ok (.lcmp, 1) := by decide +kernel
theorem dX9_ruleAtHand_172 : decode cX9_ruleAtHand 172 = .ok (.ifCond .ne 5, 3) := by decide +kernel
theorem dX9_ruleAtHand_175 : decode cX9_ruleAtHand 175 = .ok (.iconst 5, 1) := by decide +kernel
theorem dX9_ruleAtHand_176 : decode cX9_ruleAtHand 176 = .ok (.ireturn, 1) := by decide +kernel
theorem dX9_ruleAtHand_177 : decode cX9_ruleAtHand 177 = .ok (.aload_n 0, 1) := by decide +kernel
theorem dX9_ruleAtHand_178 : decode cX9_ruleAtHand 178 = .ok (.getfield 134, 3) := by decide +kernel
theorem dX9_ruleAtHand_181 : decode cX9_ruleAtHand 181 = .ok (.bipush 107, 2) := by decide +kernel
theorem dX9_ruleAtHand_183 : decode cX9_ruleAtHand 183 = .ok (.bipush 101, 2) := by decide +kernel
theorem dX9_ruleAtHand_185 : decode cX9_ruleAtHand 185 = .ok (.bipush 101, 2) := by decide +kernel
theorem dX9_ruleAtHand_187 : decode cX9_ruleAtHand 187 = .ok (.bipush 112, 2) := by decide +kernel
theorem dX9_ruleAtHand_189 : decode cX9_ruleAtHand 189 = .ok (.iconst 0, 1) := by decide +kernel
theorem dX9_ruleAtHand_190 : decode cX9_ruleAtHand 190 = .ok (.invokestatic 151, 3) := by decide +kernel
theorem dX9_ruleAtHand_193 : decode cX9_ruleAtHand 193 = .ok (.lcmp, 1) := by decide +kernel
theorem dX9_ruleAtHand_194 : decode cX9_ruleAtHand 194 = .ok (.ifCond .ne 6, 3) := by decide +kernel
theorem dX9_ruleAtHand_197 : decode cX9_ruleAtHand 197 = .ok (.bipush 6, 2) := by decide +kernel
theorem dX9_ruleAtHand_199 : decode cX9_ruleAtHand 199 = .ok (.ireturn, 1) := by decide +kernel
theorem dX9_ruleAtHand_200 : decode cX9_ruleAtHand 200 = .ok (.aload_n 0, 1) := by decide +kernel
theorem dX9_ruleAtHand_201 : decode cX9_ruleAtHand 201 = .ok (.getfield 134, 3) := by decide +kernel
theorem dX9_ruleAtHand_204 : decode cX9_ruleAtHand 204 = .ok (.bipush 114, 2) := by decide +kernel
theorem dX9_ruleAtHand_206 : decode cX9_ruleAtHand 206 = .ok (.bipush 105, 2) := by decide +kernel
theorem dX9_ruleAtHand_208 : decode cX9_ruleAtHand 208 = .ok (.bipush 110, 2) := by decide +kernel
theorem dX9_ruleAtHand_210 : decode cX9_ruleAtHand 210 = .ok (.bipush 103, 2) := by decide +kernel
theorem dX9_ruleAtHand_212 : decode cX9_ruleAtHand 212 = .ok (.iconst 0, 1) := by decide +kernel
theorem dX9_ruleAtHand_213 : decode cX9_ruleAtHand 213 = .ok (.invokestatic 151, 3) := by decide +kernel
theorem dX9_ruleAtHand_216 : decode cX9_ruleAtHand 216 = .ok (.lcmp, 1) := by decide +kernel
theorem dX9_ruleAtHand_217 : decode cX9_ruleAtHand 217 = .ok (.ifCond .ne 6, 3) := by decide +kernel
theorem dX9_ruleAtHand_220 : decode cX9_ruleAtHand 220 = .ok (.bipush 7, 2) := by decide +kernel
theorem dX9_ruleAtHand_222 : decode cX9_ruleAtHand 222 = .ok (.ireturn, 1) := by decide +kernel
theorem dX9_ruleAtHand_223 : decode cX9_ruleAtHand 223 = .ok (.aload_n 0, 1) := by decide +kernel
theorem dX9_ruleAtHand_224 : decode cX9_ruleAtHand 224 = .ok (.getfield 134, 3) := by decide +kernel
theorem dX9_ruleAtHand_227 : decode cX9_ruleAtHand 227 = .ok (.bipush 98, 2) := by decide +kernel
theorem dX9_ruleAtHand_229 : decode cX9_ruleAtHand 229 = .ok (.bipush 97, 2) := by decide +kernel
theorem dX9_ruleAtHand_231 : decode cX9_ruleAtHand 231 = .ok (.bipush 114, 2) := by decide +kernel
theorem dX9_ruleAtHand_233 : decode cX9_ruleAtHand 233 = .ok (.iconst 0, 1) := by decide +kernel
theorem dX9_ruleAtHand_234 : decode cX9_ruleAtHand 234 = .ok (.iconst 0, 1) := by decide +kernel
theorem dX9_ruleAtHand_235 : decode cX9_ruleAtHand 235 = .ok (.invokestatic 151, 3) := by decide +kernel
theorem dX9_ruleAtHand_238 : decode cX9_ruleAtHand 238 = .ok (.lcmp, 1) := by decide +kernel
theorem dX9_ruleAtHand_239 : decode cX9_ruleAtHand 239 = .ok (.ifCond .ne 8, 3) := by decide +kernel
theorem dX9_ruleAtHand_242 : decode cX9_ruleAtHand 242 = .ok (.bipush 8, 2) := by decide +kernel
theorem dX9_ruleAtHand_244 : decode cX9_ruleAtHand 244 = .ok (.goto 4, 3) := by decide +kernel
theorem dX9_ruleAtHand_247 : decode cX9_ruleAtHand 247 = .ok (.iconst (-1), 1) := by decide +kernel
theorem dX9_ruleAtHand_248 : decode cX9_ruleAtHand 248 = .ok (.ireturn, 1) := by decide +kernel
theorem dX9_bad_0 : decode cX9_bad 0 = .ok (.aload_n 0, 1) := by decide +kernel
theorem dX9_bad_1 : decode cX9_bad 1 = .ok (.aload_n 0, 1) := by decide +kernel
theorem dX9_bad_2 : decode cX9_bad 2 = .ok (.getfield 124, 3) := by decide +kernel
theorem dX9_bad_5 : decode cX9_bad 5 = .ok (.iconst 1, 1) := by decide +kernel
theorem dX9_bad_6 : decode cX9_bad 6 = .ok (.if_icmp .ne 7, 3) := by decide +kernel
theorem dX9_bad_9 : decode cX9_bad 9 = .ok (.iconst 1, 1) := by decide +kernel
theorem dX9_bad_10 : decode cX9_bad 10 = .ok (.goto 4, 3) := by decide +kernel
theorem dX9_bad_13 : decode cX9_bad 13 = .ok (.iload_n 1, 1) := by decide +kernel
theorem dX9_bad_14 : decode cX9_bad 14 = .ok (.putfield 161, 3) := by decide +kernel
theorem dX9_bad_17 : decode cX9_bad 17 = .ok (.aload_n 0, 1) := by decide +kernel
theorem dX9_bad_18 : decode cX9_bad 18 = .ok (.aload_n 0, 1) := by decide +kernel
theorem dX9_bad_19 : decode cX9_bad 19 = .ok (.getfield 121, 3) := by decide +kernel
theorem dX9_bad_22 : decode cX9_bad 22 = .ok (.putfield 164, 3) := by decide +kernel
theorem dX9_bad_25 : decode cX9_bad 25 = .ok (.iconst 0, 1) := by decide +kernel
theorem dX9_bad_26 : decode cX9_bad 26 = .ok (.ireturn, 1) := by decide +kernel
theorem dX9_readRules_0 : decode cX9_readRules 0 = .ok (.iconst 0, 1) := by decide +kernel
theorem dX9_readRules_1 : decode cX9_readRules 1 = .ok (.istore_n 1, 1) := by decide +kernel
theorem dX9_readRules_2 : decode cX9_readRules 2 = .ok (.aload_n 0, 1) := by decide +kernel
theorem dX9_readRules_3 : decode cX9_readRules 3 = .ok (.iconst 0, 1) := by decide +kernel
theorem dX9_readRules_4 : decode cX9_readRules 4 = .ok (.putfield 167, 3) := by decide +kernel
theorem dX9_readRules_7 : decode cX9_readRules 7 = .ok (.iconst 0, 1) := by decide +kernel
theorem dX9_readRules_8 : decode cX9_readRules 8 = .ok (.istore_n 2, 1) := by decide +kernel
theorem dX9_readRules_9 : decode cX9_readRules 9 = .ok (.iload_n 2, 1) := by decide +kernel
theorem dX9_readRules_10 : decode cX9_readRules 10 = .ok (.bipush 9, 2) := by decide +kernel
theorem dX9_readRules_12 : decode cX9_readRules 12 = .ok (.if_icmp .ge 21, 3) := by decide +kernel
theorem dX9_readRules_15 : decode cX9_readRules 15 = .ok (.aload_n 0, 1) := by decide +kernel
theorem dX9_readRules_16 : decode cX9_readRules 16 = .ok (.getfield 26, 3) := by decide +kernel
theorem dX9_readRules_19 : decode cX9_readRules 19 = .ok (.iload_n 2, 1) := by decide +kernel
theorem dX9_readRules_20 : decode cX9_readRules 20 = .ok (.aload_n 0, 1) := by decide +kernel
theorem dX9_readRules_21 : decode cX9_readRules 21 = .ok (.getfield 16, 3) := by decide +kernel
theorem dX9_readRules_24 : decode cX9_readRules 24 = .ok (.iload_n 2, 1) := by decide +kernel
theorem dX9_readRules_25 : decode cX9_readRules 25 = .ok (.iaload, 1) := by decide +kernel
theorem dX9_readRules_26 : decode cX9_readRules 26 = .ok (.iastore, 1) := by decide +kernel
theorem dX9_readRules_27 : decode cX9_readRules 27 = .ok (.iinc 2 1, 3) := by decide +kernel
theorem dX9_readRules_30 : decode cX9_readRules 30 = .ok (.goto (-21), 3) := by decide +kernel
theorem dX9_readRules_33 : decode cX9_readRules 33 = .ok (.aload_n 0, 1) := by decide +kernel
theorem dX9_readRules_34 : decode cX9_readRules 34 = .ok (.iconst 0, 1) := by decide +kernel
theorem dX9_readRules_35 : decode cX9_readRules 35 = .ok (.putfield 118, 3) := by decide +kernel
theorem dX9_readRules_38 : decode cX9_readRules 38 = .ok (.aload_n 0, 1) := by decide +kernel
theorem dX9_readRules_39 : decode cX9_readRules 39 = .ok (.invokevirtual 170, 3) := by decide +kernel
theorem dX9_readRules_42 : decode cX9_readRules 42 = .ok (.aload_n 0, 1) := by decide +kernel
theorem dX9_readRules_43 : decode cX9_readRules 43 = .ok (.getfield 124, 3) := by decide +kernel
theorem dX9_readRules_46 : decode cX9_readRules 46 = .ok (.ifCond .eq 135, 3) := by decide +kernel
theorem dX9_readRules_49 : decode cX9_readRules 49 = .ok (.aload_n 0, 1) := by decide +kernel
theorem dX9_readRules_50 : decode cX9_readRules 50 = .ok (.invokevirtual 173, 3) := by decide +kernel
theorem dX9_readRules_53 : decode cX9_readRules 53 = .ok (.istore_n 2, 1) := by decide +kernel
theorem dX9_readRules_54 : decode cX9_readRules 54 = .ok (.iload_n 2, 1) := by decide +kernel
theorem dX9_readRules_55 : decode cX9_readRules 55 = .ok (.iconst (-1), 1) := by decide +kernel
theorem dX9_readRules_56 : decode cX9_readRules 56 = .ok (.if_icmp .ne 9, 3) := by decide +kernel
theorem dX9_readRules_59 : decode cX9_readRules 59 = .ok (.aload_n 0, 1) := by decide +kernel
theorem dX9_readRules_60 : decode cX9_readRules 60 = .ok (.iconst 1, 1) := by decide +kernel
theorem dX9_readRules_61 : decode cX9_readRules 61 = .ok (.invokevirtual 177, 3) := by decide +kernel
theorem dX9_readRules_64 : decode cX9_readRules 64 = .ok (.ireturn, 1) := by decide +kernel
theorem dX9_readRules_65 : decode cX9_readRules 65 = .ok (.iload_n 1, 1) := by decide +kernel
theorem dX9_readRules_66 : decode cX9_readRules 66 = .ok (.iload_n 2, 1) := by decide +kernel
theorem dX9_readRules_67 : decode cX9_readRules 67 = .ok (.ishr, 1) := by decide +kernel
theorem dX9_readRules_68 : decode cX9_readRules 68 = .ok (.iconst 1, 1) := by decide +kernel
theorem dX9_readRules_69 : decode cX9_readRules 69 = .ok (.iand, 1) := by decide +kernel
theorem dX9_readRules_70 : decode cX9_readRules 70 = .ok (.iconst 1, 1) := by decide +kernel
theorem dX9_readRules_71 : decode cX9_readRules 71 = .ok (.if_icmp .ne 9, 3) := by decide +kernel
theorem dX9_readRules_74 : decode cX9_readRules 74 = .ok (.aload_n 0, 1) := by decide +kernel
theorem dX9_readRules_75 : decode cX9_readRules 75 = .ok (.iconst 3, 1) := by decide +kernel
theorem dX9_readRules_76 : decode cX9_readRules 76 = .ok (.invokevirtual 177, 3) := by decide +kernel
theorem dX9_readRules_79 : decode cX9_readRules 79 = .ok (.ireturn, 1) := by decide +kernel
theorem dX9_readRules_80 : decode cX9_readRules 80 = .ok (.aload_n 0, 1) := by decide +kernel
theorem dX9_readRules_81 : decode cX9_readRules 81 = .ok (.invokevirtual 170, 3) := by decide +kernel
theorem dX9_readRules_84 : decode cX9_readRules 84 = .ok (.aload_n 0, 1) := by decide +kernel
theorem dX9_readRules_85 : decode cX9_readRules 85 = .ok (.getfield 124, 3) := by decide +kernel
theorem dX9_readRules_88 : decode cX9_readRules 88 = .ok (.iconst 3, 1) := by decide +kernel
theorem dX9_readRules_89 : decode cX9_readRules 89 = .ok (.if_icmp .eq 9, 3) := by decide +kernel
theorem dX9_readRules_92 : decode cX9_readRules 92 = .ok (.aload_n 0, 1) := by decide +kernel
theorem dX9_readRules_93 : decode cX9_readRules 93 = .ok (.iconst 1, 1) := by decide +kernel
theorem dX9_readRules_94 : decode cX9_readRules 94 = .ok (.invokevirtual 177, 3) := by decide +kernel
theorem dX9_readRules_97 : decode cX9_readRules 97 = .ok (.ireturn, 1) := by decide +kernel
theorem dX9_readRules_98 : decode cX9_readRules 98 = .ok (.aload_n 0, 1) := by decide +kernel
theorem dX9_readRules_99 : decode cX9_readRules 99 = .ok (.getfield 138, 3) := by decide +kernel
theorem dX9_readRules_102 : decode cX9_readRules 102 = .ok (.aload_n 0, 1) := by decide +kernel
theorem dX9_readRules_103 : decode cX9_readRules 103 = .ok (.getfield 19, 3) := by decide +kernel
theorem dX9_readRules_106 : decode cX9_readRules 106 = .ok (.iload_n 2, 1) := by decide +kernel
theorem dX9_readRules_107 : decode cX9_readRules 107 = .ok (.iaload, 1) := by decide +kernel
theorem dX9_readRules_108 : decode cX9_readRules 108 = .ok (.if_icmp .lt 16, 3) := by decide +kernel
theorem dX9_readRules_111 : decode cX9_readRules 111 = .ok (.aload_n 0, 1) := by decide +kernel
theorem dX9_readRules_112 : decode cX9_readRules 112 = .ok (.getfield 138, 3) := by decide +kernel
theorem dX9_readRules_115 : decode cX9_readRules 115 = .ok (.aload_n 0, 1) := by decide +kernel
theorem dX9_readRules_116 : decode cX9_readRules 116 = .ok (.getfield 23, 3) := by decide +kernel
theorem dX9_readRules_119 : decode cX9_readRules 119 = .ok (.iload_n 2, 1) := by decide +kernel
theorem dX9_readRules_120 : decode cX9_readRules 120 = .ok (.iaload, 1) := by decide +kernel
theorem dX9_readRules_121 : decode cX9_readRules 121 = .ok (.if_icmp .le 9, 3) := by decide +kernel
theorem dX9_readRules_124 : decode cX9_readRules 124 = .ok (.aload_n 0, 1) := by decide +kernel
theorem dX9_readRules_125 : decode cX9_readRules 125 = .ok (.iconst 2, 1) := by decide +kernel
theorem dX9_readRules_126 : decode cX9_readRules 126 = .ok (.invokevirtual 177, 3) := by decide +kernel
theorem dX9_readRules_129 : decode cX9_readRules 129 = .ok (.ireturn, 1) := by decide +kernel
theorem dX9_readRules_130 : decode cX9_readRules 130 = .ok (.aload_n 0, 1) := by decide +kernel
theorem dX9_readRules_131 : decode cX9_readRules 131 = .ok (.getfield 26, 3) := by decide +kernel
theorem dX9_readRules_134 : decode cX9_readRules 134 = .ok (.iload_n 2, 1) := by decide +kernel
theorem dX9_readRules_135 : decode cX9_readRules 135 = .ok (.aload_n 0, 1) := by decide +kernel
theorem dX9_readRules_136 : decode cX9_readRules 136 = .ok (.getfield 138, 3) := by decide +kernel
theorem dX9_readRules_139 : decode cX9_readRules 139 = .ok (.iastore, 1) := by decide +kernel
theorem dX9_readRules_140 : decode cX9_readRules 140 = .ok (.aload_n 0, 1) := by decide +kernel
theorem dX9_readRules_141 : decode cX9_readRules 141 = .ok (.invokevirtual 170, 3) := by decide +kernel
theorem dX9_readRules_144 : decode cX9_readRules 144 = .ok (.aload_n 0, 1) := by decide +kernel
theorem dX9_readRules_145 : decode cX9_readRules 145 = .ok (.getfield 124, 3) := by decide +kernel
theorem dX9_readRules_148 : decode cX9_readRules 148 = .ok (.iconst 4, 1) := by decide +kernel
theorem dX9_readRules_149 : decode cX9_readRules 149 = .ok (.if_icmp .eq 9, 3) := by decide +kernel
theorem dX9_readRules_152 : decode cX9_readRules 152 = .ok (.aload_n 0, 1) := by decide +kernel
theorem dX9_readRules_153 : decode cX9_readRules 153 = .ok (.iconst 1, 1) := by decide +kernel
theorem dX9_readRules_154 : decode cX9_readRules 154 = .ok (.invokevirtual 177, 3) := by decide +kernel
theorem dX9_readRules_157 : decode cX9_readRules 157 = .ok (.ireturn, 1) := by decide +kernel
theorem dX9_readRules_158 : decode cX9_readRules 158 = .ok (.iload_n 1, 1) := by decide +kernel
theorem dX9_readRules_159 : decode cX9_readRules 159 = .ok (.iconst 1, 1) := by decide +kernel
theorem dX9_readRules_160 : decode cX9_readRules 160 = .ok (.iload_n 2, 1) := by decide +kernel
theorem dX9_readRules_161 : decode cX9_readRules 161 = .ok (.ishl, 1) := by decide +kernel
theorem dX9_readRules_162 : decode cX9_readRules 162 = .ok (.ior, 1) := by decide +kernel
theorem dX9_readRules_163 : decode cX9_readRules 163 = .ok (.istore_n 1, 1) := by decide +kernel
theorem dX9_readRules_164 : decode cX9_readRules 164 = .ok (.aload_n 0, 1) := by decide +kernel
theorem dX9_readRules_165 : decode cX9_readRules 165 = .ok (.dup, 1) := by decide +kernel
theorem dX9_readRules_166 : decode cX9_readRules 166 = .ok (.getfield 167, 3) := by decide +kernel
theorem dX9_readRules_169 : decode cX9_readRules 169 = .ok (.iconst 1, 1) := by decide +kernel
theorem dX9_readRules_170 : decode cX9_readRules 170 = .ok (.iadd, 1) := by decide +kernel
theorem dX9_readRules_171 : decode cX9_readRules 171 = .ok (.putfield 167, 3) := by decide +kernel
theorem dX9_readRules_174 : decode cX9_readRules 174 = .ok (.aload_n 0, 1) := by decide +kernel
theorem dX9_readRules_175 : decode cX9_readRules 175 = .ok (.invokevirtual 170, 3) := by decide +kernel
theorem dX9_readRules_178 : decode cX9_readRules 178 = .ok (.goto (-136), 3) := by decide +kernel
theorem dX9_readRules_181 : decode cX9_readRules 181 = .ok (.iconst 1, 1) := by decide +kernel
theorem dX9_readRules_182 : decode cX9_readRules 182 = .ok (.ireturn, 1) := by decide +kernel
theorem dX9_rules_0 : decode cX9_rules 0 = .ok (.aload_n 0, 1) := by decide +kernel
theorem dX9_rules_1 : decode cX9_rules 1 = .ok (.iconst 0, 1) := by decide +kernel
theorem dX9_rules_2 : decode cX9_rules 2 = .ok (.putfield 105, 3) := by decide +kernel
theorem dX9_rules_5 : decode cX9_rules 5 = .ok (.aload_n 0, 1) := by decide +kernel
theorem dX9_rules_6 : decode cX9_rules 6 = .ok (.aload_n 0, 1) := by decide +kernel
theorem dX9_rules_7 : decode cX9_rules 7 = .ok (.getfield 108, 3) := by decide +kernel
theorem dX9_rules_10 : decode cX9_rules 10 = .ok (.putfield 115, 3) := by decide +kernel
theorem dX9_rules_13 : decode cX9_rules 13 = .ok (.aload_n 0, 1) := by decide +kernel
theorem dX9_rules_14 : decode cX9_rules 14 = .ok (.iconst 0, 1) := by decide +kernel
theorem dX9_rules_15 : decode cX9_rules 15 = .ok (.putfield 108, 3) := by decide +kernel
theorem dX9_rules_18 : decode cX9_rules 18 = .ok (.aload_n 0, 1) := by decide +kernel
theorem dX9_rules_19 : decode cX9_rules 19 = .ok (.iconst 0, 1) := by decide +kernel
theorem dX9_rules_20 : decode cX9_rules 20 = .ok (.putfield 161, 3) := by decide +kernel
theorem dX9_rules_23 : decode cX9_rules 23 = .ok (.aload_n 0, 1) := by decide +kernel
theorem dX9_rules_24 : decode cX9_rules 24 = .ok (.invokevirtual 180, 3) := by decide +kernel
theorem dX9_rules_27 : decode cX9_rules 27 = .ok (.ifCond .ne 10, 3) := by decide +kernel
theorem dX9_rules_30 : decode cX9_rules 30 = .ok (.iconst (-1), 1) := by decide +kernel
theorem dX9_rules_31 : decode cX9_rules 31 = .ok (.aload_n 0, 1) := by decide +kernel
theorem dX9_rules_32 : decode cX9_rules 32 = .ok (.getfield 164, 3) := by decide +kernel
theorem dX9_rules_35 : decode cX9_rules 35 = .ok (.isub, 1) := by decide +kernel
theorem dX9_rules_36 : decode cX9_rules 36 = .ok (.ireturn, 1) := by decide +kernel
theorem dX9_rules_37 : decode cX9_rules 37 = .ok (.iconst 0, 1) := by decide +kernel
theorem dX9_rules_38 : decode cX9_rules 38 = .ok (.istore_n 1, 1) := by decide +kernel
theorem dX9_rules_39 : decode cX9_rules 39 = .ok (.iload_n 1, 1) := by decide +kernel
theorem dX9_rules_40 : decode cX9_rules 40 = .ok (.bipush 9, 2) := by decide +kernel
theorem dX9_rules_42 : decode cX9_rules 42 = .ok (.if_icmp .ge 21, 3) := by decide +kernel
theorem dX9_rules_45 : decode cX9_rules 45 = .ok (.aload_n 0, 1) := by decide +kernel
theorem dX9_rules_46 : decode cX9_rules 46 = .ok (.getfield 13, 3) := by decide +kernel
theorem dX9_rules_49 : decode cX9_rules 49 = .ok (.iload_n 1, 1) := by decide +kernel
theorem dX9_rules_50 : decode cX9_rules 50 = .ok (.aload_n 0, 1) := by decide +kernel
theorem dX9_rules_51 : decode cX9_rules 51 = .ok (.getfield 26, 3) := by decide +kernel
theorem dX9_rules_54 : decode cX9_rules 54 = .ok (.iload_n 1, 1) := by decide +kernel
theorem dX9_rules_55 : decode cX9_rules 55 = .ok (.iaload, 1) := by decide +kernel
theorem dX9_rules_56 : decode cX9_rules 56 = .ok (.iastore, 1) := by decide +kernel
theorem dX9_rules_57 : decode cX9_rules 57 = .ok (.iinc 1 1, 3) := by decide +kernel
theorem dX9_rules_60 : decode cX9_rules 60 = .ok (.goto (-21), 3) := by decide +kernel
theorem dX9_rules_63 : decode cX9_rules 63 = .ok (.aload_n 0, 1) := by decide +kernel
theorem dX9_rules_64 : decode cX9_rules 64 = .ok (.getfield 167, 3) := by decide +kernel
theorem dX9_rules_67 : decode cX9_rules 67 = .ok (.ireturn, 1) := by decide +kernel
theorem dX9_fault_0 : decode cX9_fault 0 = .ok (.aload_n 0, 1) := by decide +kernel
theorem dX9_fault_1 : decode cX9_fault 1 = .ok (.iconst 0, 1) := by decide +kernel
theorem dX9_fault_2 : decode cX9_fault 2 = .ok (.putfield 105, 3) := by decide +kernel
theorem dX9_fault_5 : decode cX9_fault 5 = .ok (.aload_n 0, 1) := by decide +kernel
theorem dX9_fault_6 : decode cX9_fault 6 = .ok (.getfield 161, 3) := by decide +kernel
theorem dX9_fault_9 : decode cX9_fault 9 = .ok (.ireturn, 1) := by decide +kernel
theorem dX9_rule_0 : decode cX9_rule 0 = .ok (.aload_n 0, 1) := by decide +kernel
theorem dX9_rule_1 : decode cX9_rule 1 = .ok (.iconst 0, 1) := by decide +kernel
theorem dX9_rule_2 : decode cX9_rule 2 = .ok (.putfield 105, 3) := by decide +kernel
theorem dX9_rule_5 : decode cX9_rule 5 = .ok (.iload_n 1, 1) := by decide +kernel
theorem dX9_rule_6 : decode cX9_rule 6 = .ok (.ifCond .lt 9, 3) := by decide +kernel
theorem dX9_rule_9 : decode cX9_rule 9 = .ok (.iload_n 1, 1) := by decide +kernel
theorem dX9_rule_10 : decode cX9_rule 10 = .ok (.bipush 9, 2) := by decide +kernel
theorem dX9_rule_12 : decode cX9_rule 12 = .ok (.if_icmp .lt 7, 3) := by decide +kernel
theorem dX9_rule_15 : decode cX9_rule 15 = .ok (.iconst (-1), 1) := by decide +kernel
theorem dX9_rule_16 : decode cX9_rule 16 = .ok (.goto 9, 3) := by decide +kernel
theorem dX9_rule_19 : decode cX9_rule 19 = .ok (.aload_n 0, 1) := by decide +kernel
theorem dX9_rule_20 : decode cX9_rule 20 = .ok (.getfield 13, 3) := by decide +kernel
theorem dX9_rule_23 : decode cX9_rule 23 = .ok (.iload_n 1, 1) := by decide +kernel
theorem dX9_rule_24 : decode cX9_rule 24 = .ok (.iaload, 1) := by decide +kernel
theorem dX9_rule_25 : decode cX9_rule 25 = .ok (.ireturn, 1) := by decide +kernel
theorem dX9_isPerson_0 : decode cX9_isPerson 0 = .ok (.iload_n 1, 1) := by decide +kernel
theorem dX9_isPerson_1 : decode cX9_isPerson 1 = .ok (.ifCond .lt 15, 3) := by decide +kernel
theorem dX9_isPerson_4 : decode cX9_isPerson 4 = .ok (.iload_n 1, 1) := by decide +kernel
theorem dX9_isPerson_5 : decode cX9_isPerson 5 = .ok (.aload_n 0, 1) := by decide +kernel
theorem dX9_isPerson_6 : decode cX9_isPerson 6 = .ok (.getfield 184, 3) := by decide +kernel
theorem dX9_isPerson_9 : decode cX9_isPerson 9 = .ok (.if_icmp .ge 7, 3) := by decide +kernel
theorem dX9_isPerson_12 : decode cX9_isPerson 12 = .ok (.iconst 1, 1) := by decide +kernel
theorem dX9_isPerson_13 : decode cX9_isPerson 13 = .ok (.goto 4, 3) := by decide +kernel
theorem dX9_isPerson_16 : decode cX9_isPerson 16 = .ok (.iconst 0, 1) := by decide +kernel
theorem dX9_isPerson_17 : decode cX9_isPerson 17 = .ok (.ireturn, 1) := by decide +kernel
theorem dX9_isFund_0 : decode cX9_isFund 0 = .ok (.iload_n 1, 1) := by decide +kernel
theorem dX9_isFund_1 : decode cX9_isFund 1 = .ok (.ifCond .lt 15, 3) := by decide +kernel
theorem dX9_isFund_4 : decode cX9_isFund 4 = .ok (.iload_n 1, 1) := by decide +kernel
theorem dX9_isFund_5 : decode cX9_isFund 5 = .ok (.aload_n 0, 1) := by decide +kernel
theorem dX9_isFund_6 : decode cX9_isFund 6 = .ok (.getfield 41, 3) := by decide +kernel
theorem dX9_isFund_9 : decode cX9_isFund 9 = .ok (.if_icmp .ge 7, 3) := by decide +kernel
theorem dX9_isFund_12 : decode cX9_isFund 12 = .ok (.iconst 1, 1) := by decide +kernel
theorem dX9_isFund_13 : decode cX9_isFund 13 = .ok (.goto 4, 3) := by decide +kernel
theorem dX9_isFund_16 : decode cX9_isFund 16 = .ok (.iconst 0, 1) := by decide +kernel
theorem dX9_isFund_17 : decode cX9_isFund 17 = .ok (.ireturn, 1) := by decide +kernel
theorem dX9_person_0 : decode cX9_person 0 = .ok (.aload_n 0, 1) := by decide +kernel
theorem dX9_person_1 : decode cX9_person 1 = .ok (.iconst 0, 1) := by decide +kernel
theorem dX9_person_2 : decode cX9_person 2 = .ok (.putfield 105, 3) := by decide +kernel
theorem dX9_person_5 : decode cX9_person 5 = .ok (.aload_n 0, 1) := by decide +kernel
theorem dX9_person_6 : decode cX9_person 6 = .ok (.getfield 184, 3) := by decide +kernel
theorem dX9_person_9 : decode cX9_person 9 = .ok (.bipush 40, 2) := by decide +kernel
theorem dX9_person_11 : decode cX9_person 11 = .ok (.if_icmp .eq 14, 3) := by decide +kernel
theorem dX9_person_14 : decode cX9_person 14 = .ok (.iload_n 1, 1) := by decide +kernel
theorem dX9_person_15 : decode cX9_person 15 = .ok (.ifCond .lt 10, 3) := by decide +kernel
theorem dX9_person_18 : decode cX9_person 18 = .ok (.iload_n 1, 1) := by decide +kernel
theorem dX9_person_19 : decode cX9_person 19 = .ok (.sipush 255, 3) := by decide +kernel
theorem dX9_person_22 : decode cX9_person 22 = .ok (.if_icmp .le 5, 3) := by decide +kernel
theorem dX9_person_25 : decode cX9_person 25 = .ok (.iconst (-1), 1) := by decide +kernel
theorem dX9_person_26 : decode cX9_person 26 = .ok (.ireturn, 1) := by decide +kernel
theorem dX9_person_27 : decode cX9_person 27 = .ok (.aload_n 0, 1) := by decide +kernel
theorem dX9_person_28 : decode cX9_person 28 = .ok (.getfield 29, 3) := by decide +kernel
theorem dX9_person_31 : decode cX9_person 31 = .ok (.aload_n 0, 1) := by decide +kernel
theorem dX9_person_32 : decode cX9_person 32 = .ok (.getfield 184, 3) := by decide +kernel
theorem dX9_person_35 : decode cX9_person 35 = .ok (.iload_n 1, 1) := by decide +kernel
theorem dX9_person_36 : decode cX9_person 36 = .ok (.iastore, 1) := by decide +kernel
theorem dX9_person_37 : decode cX9_person 37 = .ok (.aload_n 0, 1) := by decide +kernel
theorem dX9_person_38 : decode cX9_person 38 = .ok (.dup, 1) := by decide +kernel
theorem dX9_person_39 : decode cX9_person 39 = .ok (.getfield 184, 3) := by decide +kernel
theorem dX9_person_42 : decode cX9_person 42 = .ok (.iconst 1, 1) := by decide +kernel
theorem dX9_person_43 : decode cX9_person 43 = .ok (.iadd, 1) := by decide +kernel
theorem dX9_person_44 : decode cX9_person 44 = .ok (.putfield 184, 3) := by decide +kernel
theorem dX9_person_47 : decode cX9_person 47 = .ok (.aload_n 0, 1) := by decide +kernel
theorem dX9_person_48 : decode cX9_person 48 = .ok (.getfield 184, 3) := by decide +kernel
theorem dX9_person_51 : decode cX9_person 51 = .ok (.iconst 1, 1) := by decide +kernel
theorem dX9_person_52 : decode cX9_person 52 = .ok (.isub, 1) := by decide +kernel
theorem dX9_person_53 : decode cX9_person 53 = .ok (.ireturn, 1) := by decide +kernel
theorem dX9_tag_0 : decode cX9_tag 0 = .ok (.aload_n 0, 1) := by decide +kernel
theorem dX9_tag_1 : decode cX9_tag 1 = .ok (.iconst 0, 1) := by decide +kernel
theorem dX9_tag_2 : decode cX9_tag 2 = .ok (.putfield 105, 3) := by decide +kernel
theorem dX9_tag_5 : decode cX9_tag 5 = .ok (.aload_n 0, 1) := by decide +kernel
theorem dX9_tag_6 : decode cX9_tag 6 = .ok (.iload_n 1, 1) := by decide +kernel
theorem dX9_tag_7 : decode cX9_tag 7 = .ok (.invokevirtual 187, 3) := by decide +kernel
theorem dX9_tag_10 : decode cX9_tag 10 = .ok (.ifCond .eq 35, 3) := by decide +kernel
theorem dX9_tag_13 : decode cX9_tag 13 = .ok (.iload_n 2, 1) := by decide +kernel
theorem dX9_tag_14 : decode cX9_tag 14 = .ok (.ifCond .lt 31, 3) := by decide +kernel
theorem dX9_tag_17 : decode cX9_tag 17 = .ok (.iload_n 2, 1) := by decide +kernel
theorem dX9_tag_18 : decode cX9_tag 18 = .ok (.bipush 7, 2) := by decide +kernel
theorem dX9_tag_20 : decode cX9_tag 20 = .ok (.if_icmp .gt 25, 3) := by decide +kernel
theorem dX9_tag_23 : decode cX9_tag 23 = .ok (.aload_n 0, 1) := by decide +kernel
theorem dX9_tag_24 : decode cX9_tag 24 = .ok (.getfield 29, 3) := by decide +kernel
theorem dX9_tag_27 : decode cX9_tag 27 = .ok (.iload_n 1, 1) := by decide +kernel
theorem dX9_tag_28 : decode cX9_tag 28 = .ok (.iaload, 1) := by decide +kernel
theorem dX9_tag_29 : decode cX9_tag 29 = .ok (.iload_n 2, 1) := by decide +kernel
theorem dX9_tag_30 : decode cX9_tag 30 = .ok (.ishr, 1) := by decide +kernel
theorem dX9_tag_31 : decode cX9_tag 31 = .ok (.iconst 1, 1) := by decide +kernel
theorem dX9_tag_32 : decode cX9_tag 32 = .ok (.iand, 1) := by decide +kernel
theorem dX9_tag_33 : decode cX9_tag 33 = .ok (.iload_n 3, 1) := by decide +kernel
theorem dX9_tag_34 : decode cX9_tag 34 = .ok (.ifCond .eq 7, 3) := by decide +kernel
theorem dX9_tag_37 : decode cX9_tag 37 = .ok (.iconst 1, 1) := by decide +kernel
theorem dX9_tag_38 : decode cX9_tag 38 = .ok (.goto 4, 3) := by decide +kernel
theorem dX9_tag_41 : decode cX9_tag 41 = .ok (.iconst 0, 1) := by decide +kernel
theorem dX9_tag_42 : decode cX9_tag 42 = .ok (.if_icmp .ne 5, 3) := by decide +kernel
theorem dX9_tag_45 : decode cX9_tag 45 = .ok (.iconst 0, 1) := by decide +kernel
theorem dX9_tag_46 : decode cX9_tag 46 = .ok (.ireturn, 1) := by decide +kernel
theorem dX9_tag_47 : decode cX9_tag 47 = .ok (.aload_n 0, 1) := by decide +kernel
theorem dX9_tag_48 : decode cX9_tag 48 = .ok (.getfield 29, 3) := by decide +kernel
theorem dX9_tag_51 : decode cX9_tag 51 = .ok (.iload_n 1, 1) := by decide +kernel
theorem dX9_tag_52 : decode cX9_tag 52 = .ok (.dup2, 1) := by decide +kernel
theorem dX9_tag_53 : decode cX9_tag 53 = .ok (.iaload, 1) := by decide +kernel
theorem dX9_tag_54 : decode cX9_tag 54 = .ok (.iconst 1, 1) := by decide +kernel
theorem dX9_tag_55 : decode cX9_tag 55 = .ok (.iload_n 2, 1) := by decide +kernel
theorem dX9_tag_56 : decode cX9_tag 56 = .ok (.ishl, 1) := by decide +kernel
theorem dX9_tag_57 : decode cX9_tag 57 = .ok (.ixor, 1) := by decide +kernel
theorem dX9_tag_58 : decode cX9_tag 58 = .ok (.iastore, 1) := by decide +kernel
theorem dX9_tag_59 : decode cX9_tag 59 = .ok (.iconst 1, 1) := by decide +kernel
theorem dX9_tag_60 : decode cX9_tag 60 = .ok (.ireturn, 1) := by decide +kernel
theorem dX9_fund_0 : decode cX9_fund 0 = .ok (.aload_n 0, 1) := by decide +kernel
theorem dX9_fund_1 : decode cX9_fund 1 = .ok (.iconst 0, 1) := by decide +kernel
theorem dX9_fund_2 : decode cX9_fund 2 = .ok (.putfield 105, 3) := by decide +kernel
theorem dX9_fund_5 : decode cX9_fund 5 = .ok (.aload_n 0, 1) := by decide +kernel
theorem dX9_fund_6 : decode cX9_fund 6 = .ok (.getfield 41, 3) := by decide +kernel
theorem dX9_fund_9 : decode cX9_fund 9 = .ok (.bipush 6, 2) := by decide +kernel
theorem dX9_fund_11 : decode cX9_fund 11 = .ok (.if_icmp .eq 23, 3) := by decide +kernel
theorem dX9_fund_14 : decode cX9_fund 14 = .ok (.iload_n 1, 1) := by decide +kernel
theorem dX9_fund_15 : decode cX9_fund 15 = .ok (.ifCond .lt 19, 3) := by decide +kernel
theorem dX9_fund_18 : decode cX9_fund 18 = .ok (.iload_n 1, 1) := by decide +kernel
theorem dX9_fund_19 : decode cX9_fund 19 = .ok (.bipush 7, 2) := by decide +kernel
theorem dX9_fund_21 : decode cX9_fund 21 = .ok (.if_icmp .gt 13, 3) := by decide +kernel
theorem dX9_fund_24 : decode cX9_fund 24 = .ok (.iload_n 2, 1) := by decide +kernel
theorem dX9_fund_25 : decode cX9_fund 25 = .ok (.ifCond .lt 9, 3) := by decide +kernel
theorem dX9_fund_28 : decode cX9_fund 28 = .ok (.iload_n 2, 1) := by decide +kernel
theorem dX9_fund_29 : decode cX9_fund 29 = .ok (.ldc 190, 2) := by decide +kernel
theorem dX9_fund_31 : decode cX9_fund 31 = .ok (.if_icmp .le 5, 3) := by decide +kernel
theorem dX9_fund_34 : decode cX9_fund 34 = .ok (.iconst (-1), 1) := by decide +kernel
theorem dX9_fund_35 : decode cX9_fund 35 = .ok (.ireturn, 1) := by decide +kernel
theorem dX9_fund_36 : decode cX9_fund 36 = .ok (.aload_n 0, 1) := by decide +kernel
theorem dX9_fund_37 : decode cX9_fund 37 = .ok (.getfield 32, 3) := by decide +kernel
theorem dX9_fund_40 : decode cX9_fund 40 = .ok (.aload_n 0, 1) := by decide +kernel
theorem dX9_fund_41 : decode cX9_fund 41 = .ok (.getfield 41, 3) := by decide +kernel
theorem dX9_fund_44 : decode cX9_fund 44 = .ok (.iload_n 1, 1) := by decide +kernel
theorem dX9_fund_45 : decode cX9_fund 45 = .ok (.iastore, 1) := by decide +kernel
theorem dX9_fund_46 : decode cX9_fund 46 = .ok (.aload_n 0, 1) := by decide +kernel
theorem dX9_fund_47 : decode cX9_fund 47 = .ok (.getfield 35, 3) := by decide +kernel
theorem dX9_fund_50 : decode cX9_fund 50 = .ok (.aload_n 0, 1) := by decide +kernel
theorem dX9_fund_51 : decode cX9_fund 51 = .ok (.getfield 41, 3) := by decide +kernel
theorem dX9_fund_54 : decode cX9_fund 54 = .ok (.iload_n 2, 1) := by decide +kernel
theorem dX9_fund_55 : decode cX9_fund 55 = .ok (.iastore, 1) := by decide +kernel
theorem dX9_fund_56 : decode cX9_fund 56 = .ok (.aload_n 0, 1) := by decide +kernel
theorem dX9_fund_57 : decode cX9_fund 57 = .ok (.dup, 1) := by decide +kernel
theorem dX9_fund_58 : decode cX9_fund 58 = .ok (.getfield 191, 3) := by decide +kernel
theorem dX9_fund_61 : decode cX9_fund 61 = .ok (.iload_n 2, 1) := by decide +kernel
theorem dX9_fund_62 : decode cX9_fund 62 = .ok (.iadd, 1) := by decide +kernel
theorem dX9_fund_63 : decode cX9_fund 63 = .ok (.putfield 191, 3) := by decide +kernel
theorem dX9_fund_66 : decode cX9_fund 66 = .ok (.aload_n 0, 1) := by decide +kernel
theorem dX9_fund_67 : decode cX9_fund 67 = .ok (.dup, 1) := by decide +kernel
theorem dX9_fund_68 : decode cX9_fund 68 = .ok (.getfield 41, 3) := by decide +kernel
theorem dX9_fund_71 : decode cX9_fund 71 = .ok (.iconst 1, 1) := by decide +kernel
theorem dX9_fund_72 : decode cX9_fund 72 = .ok (.iadd, 1) := by decide +kernel
theorem dX9_fund_73 : decode cX9_fund 73 = .ok (.putfield 41, 3) := by decide +kernel
theorem dX9_fund_76 : decode cX9_fund 76 = .ok (.aload_n 0, 1) := by decide +kernel
theorem dX9_fund_77 : decode cX9_fund 77 = .ok (.getfield 41, 3) := by decide +kernel
theorem dX9_fund_80 : decode cX9_fund 80 = .ok (.iconst 1, 1) := by decide +kernel
theorem dX9_fund_81 : decode cX9_fund 81 = .ok (.isub, 1) := by decide +kernel
theorem dX9_fund_82 : decode cX9_fund 82 = .ok (.ireturn, 1) := by decide +kernel
theorem dX9_gift_0 : decode cX9_gift 0 = .ok (.aload_n 0, 1) := by decide +kernel
theorem dX9_gift_1 : decode cX9_gift 1 = .ok (.iconst 0, 1) := by decide +kernel
theorem dX9_gift_2 : decode cX9_gift 2 = .ok (.putfield 105, 3) := by decide +kernel
theorem dX9_gift_5 : decode cX9_gift 5 = .ok (.aload_n 0, 1) := by decide +kernel
theorem dX9_gift_6 : decode cX9_gift 6 = .ok (.iload_n 1, 1) := by decide +kernel
theorem dX9_gift_7 : decode cX9_gift 7 = .ok (.invokevirtual 194, 3) := by decide +kernel
theorem dX9_gift_10 : decode cX9_gift 10 = .ok (.ifCond .eq 27, 3) := by decide +kernel
theorem dX9_gift_13 : decode cX9_gift 13 = .ok (.iload_n 2, 1) := by decide +kernel
theorem dX9_gift_14 : decode cX9_gift 14 = .ok (.iconst 1, 1) := by decide +kernel
theorem dX9_gift_15 : decode cX9_gift 15 = .ok (.if_icmp .lt 22, 3) := by decide +kernel
theorem dX9_gift_18 : decode cX9_gift 18 = .ok (.iload_n 2, 1) := by decide +kernel
theorem dX9_gift_19 : decode cX9_gift 19 = .ok (.ldc 190, 2) := by decide +kernel
theorem dX9_gift_21 : decode cX9_gift 21 = .ok (.if_icmp .gt 16, 3) := by decide +kernel
theorem dX9_gift_24 : decode cX9_gift 24 = .ok (.aload_n 0, 1) := by decide +kernel
theorem dX9_gift_25 : decode cX9_gift 25 = .ok (.getfield 35, 3) := by decide +kernel
theorem dX9_gift_28 : decode cX9_gift 28 = .ok (.iload_n 1, 1) := by decide +kernel
theorem dX9_gift_29 : decode cX9_gift 29 = .ok (.iaload, 1) := by decide +kernel
theorem dX9_gift_30 : decode cX9_gift 30 = .ok (.iload_n 2, 1) := by decide +kernel
theorem dX9_gift_31 : decode cX9_gift 31 = .ok (.iadd, 1) := by decide +kernel
theorem dX9_gift_32 : decode cX9_gift 32 = .ok (.ldc 197, 2) := by decide +kernel
theorem dX9_gift_34 : decode cX9_gift 34 = .ok (.if_icmp .le 5, 3) := by decide +kernel
theorem dX9_gift_37 : decode cX9_gift 37 = .ok (.iconst (-1), 1) := by decide +kernel
theorem dX9_gift_38 : decode cX9_gift 38 = .ok (.ireturn, 1) := by decide +kernel
theorem dX9_gift_39 : decode cX9_gift 39 = .ok (.aload_n 0, 1) := by decide +kernel
theorem dX9_gift_40 : decode cX9_gift 40 = .ok (.getfield 35, 3) := by decide +kernel
theorem dX9_gift_43 : decode cX9_gift 43 = .ok (.iload_n 1, 1) := by decide +kernel
theorem dX9_gift_44 : decode cX9_gift 44 = .ok (.dup2, 1) := by decide +kernel
theorem dX9_gift_45 : decode cX9_gift 45 = .ok (.iaload, 1) := by decide +kernel
theorem dX9_gift_46 : decode cX9_gift 46 = .ok (.iload_n 2, 1) := by decide +kernel
theorem dX9_gift_47 : decode cX9_gift 47 = .ok (.iadd, 1) := by decide +kernel
theorem dX9_gift_48 : decode cX9_gift 48 = .ok (.iastore, 1) := by decide +kernel
theorem dX9_gift_49 : decode cX9_gift 49 = .ok (.aload_n 0, 1) := by decide +kernel
theorem dX9_gift_50 : decode cX9_gift 50 = .ok (.dup, 1) := by decide +kernel
theorem dX9_gift_51 : decode cX9_gift 51 = .ok (.getfield 191, 3) := by decide +kernel
theorem dX9_gift_54 : decode cX9_gift 54 = .ok (.iload_n 2, 1) := by decide +kernel
theorem dX9_gift_55 : decode cX9_gift 55 = .ok (.iadd, 1) := by decide +kernel
theorem dX9_gift_56 : decode cX9_gift 56 = .ok (.putfield 191, 3) := by decide +kernel
theorem dX9_gift_59 : decode cX9_gift 59 = .ok (.aload_n 0, 1) := by decide +kernel
theorem dX9_gift_60 : decode cX9_gift 60 = .ok (.getfield 35, 3) := by decide +kernel
theorem dX9_gift_63 : decode cX9_gift 63 = .ok (.iload_n 1, 1) := by decide +kernel
theorem dX9_gift_64 : decode cX9_gift 64 = .ok (.iaload, 1) := by decide +kernel
theorem dX9_gift_65 : decode cX9_gift 65 = .ok (.ireturn, 1) := by decide +kernel
theorem dX9_openOf_0 : decode cX9_openOf 0 = .ok (.iconst 0, 1) := by decide +kernel
theorem dX9_openOf_1 : decode cX9_openOf 1 = .ok (.istore_n 2, 1) := by decide +kernel
theorem dX9_openOf_2 : decode cX9_openOf 2 = .ok (.iload_n 2, 1) := by decide +kernel
theorem dX9_openOf_3 : decode cX9_openOf 3 = .ok (.aload_n 0, 1) := by decide +kernel
theorem dX9_openOf_4 : decode cX9_openOf 4 = .ok (.getfield 198, 3) := by decide +kernel
theorem dX9_openOf_7 : decode cX9_openOf 7 = .ok (.if_icmp .ge 30, 3) := by decide +kernel
theorem dX9_openOf_10 : decode cX9_openOf 10 = .ok (.aload_n 0, 1) := by decide +kernel
theorem dX9_openOf_11 : decode cX9_openOf 11 = .ok (.getfield 45, 3) := by decide +kernel
theorem dX9_openOf_14 : decode cX9_openOf 14 = .ok (.iload_n 2, 1) := by decide +kernel
theorem dX9_openOf_15 : decode cX9_openOf 15 = .ok (.iaload, 1) := by decide +kernel
theorem dX9_openOf_16 : decode cX9_openOf 16 = .ok (.iload_n 1, 1) := by decide +kernel
theorem dX9_openOf_17 : decode cX9_openOf 17 = .ok (.if_icmp .ne 14, 3) := by decide +kernel
theorem dX9_openOf_20 : decode cX9_openOf 20 = .ok (.aload_n 0, 1) := by decide +kernel
theorem dX9_openOf_21 : decode cX9_openOf 21 = .ok (.getfield 78, 3) := by decide +kernel
theorem dX9_openOf_24 : decode cX9_openOf 24 = .ok (.iload_n 2, 1) := by decide +kernel
theorem dX9_openOf_25 : decode cX9_openOf 25 = .ok (.iaload, 1) := by decide +kernel
theorem dX9_openOf_26 : decode cX9_openOf 26 = .ok (.ifCond .ne 5, 3) := by decide +kernel
theorem dX9_openOf_29 : decode cX9_openOf 29 = .ok (.iload_n 2, 1) := by decide +kernel
theorem dX9_openOf_30 : decode cX9_openOf 30 = .ok (.ireturn, 1) := by decide +kernel
theorem dX9_openOf_31 : decode cX9_openOf 31 = .ok (.iinc 2 1, 3) := by decide +kernel
theorem dX9_openOf_34 : decode cX9_openOf 34 = .ok (.goto (-32), 3) := by decide +kernel
theorem dX9_openOf_37 : decode cX9_openOf 37 = .ok (.iconst (-1), 1) := by decide +kernel
theorem dX9_openOf_38 : decode cX9_openOf 38 = .ok (.ireturn, 1) := by decide +kernel
theorem dX9_isBarred_0 : decode cX9_isBarred 0 = .ok (.iconst 0, 1) := by decide +kernel
theorem dX9_isBarred_1 : decode cX9_isBarred 1 = .ok (.istore_n 2, 1) := by decide +kernel
theorem dX9_isBarred_2 : decode cX9_isBarred 2 = .ok (.iload_n 2, 1) := by decide +kernel
theorem dX9_isBarred_3 : decode cX9_isBarred 3 = .ok (.aload_n 0, 1) := by decide +kernel
theorem dX9_isBarred_4 : decode cX9_isBarred 4 = .ok (.getfield 201, 3) := by decide +kernel
theorem dX9_isBarred_7 : decode cX9_isBarred 7 = .ok (.if_icmp .ge 30, 3) := by decide +kernel
theorem dX9_isBarred_10 : decode cX9_isBarred 10 = .ok (.aload_n 0, 1) := by decide +kernel
theorem dX9_isBarred_11 : decode cX9_isBarred 11 = .ok (.getfield 93, 3) := by decide +kernel
theorem dX9_isBarred_14 : decode cX9_isBarred 14 = .ok (.iload_n 2, 1) := by decide +kernel
theorem dX9_isBarred_15 : decode cX9_isBarred 15 = .ok (.iaload, 1) := by decide +kernel
theorem dX9_isBarred_16 : decode cX9_isBarred 16 = .ok (.iload_n 1, 1) := by decide +kernel
theorem dX9_isBarred_17 : decode cX9_isBarred 17 = .ok (.if_icmp .ne 14, 3) := by decide +kernel
theorem dX9_isBarred_20 : decode cX9_isBarred 20 = .ok (.aload_n 0, 1) := by decide +kernel
theorem dX9_isBarred_21 : decode cX9_isBarred 21 = .ok (.getfield 99, 3) := by decide +kernel
theorem dX9_isBarred_24 : decode cX9_isBarred 24 = .ok (.iload_n 2, 1) := by decide +kernel
theorem dX9_isBarred_25 : decode cX9_isBarred 25 = .ok (.iaload, 1) := by decide +kernel
theorem dX9_isBarred_26 : decode cX9_isBarred 26 = .ok (.ifCond .le 5, 3) := by decide +kernel
theorem dX9_isBarred_29 : decode cX9_isBarred 29 = .ok (.iconst 1, 1) := by decide +kernel
theorem dX9_isBarred_30 : decode cX9_isBarred 30 = .ok (.ireturn, 1) := by decide +kernel
theorem dX9_isBarred_31 : decode cX9_isBarred 31 = .ok (.iinc 2 1, 3) := by decide +kernel
theorem dX9_isBarred_34 : decode cX9_isBarred 34 = .ok (.goto (-32), 3) := by decide +kernel
theorem dX9_isBarred_37 : decode cX9_isBarred 37 = .ok (.iconst 0, 1) := by decide +kernel
theorem dX9_isBarred_38 : decode cX9_isBarred 38 = .ok (.istore_n 2, 1) := by decide +kernel
theorem dX9_isBarred_39 : decode cX9_isBarred 39 = .ok (.iconst 0, 1) := by decide +kernel
theorem dX9_isBarred_40 : decode cX9_isBarred 40 = .ok (.istore_n 3, 1) := by decide +kernel
theorem dX9_isBarred_41 : decode cX9_isBarred 41 = .ok (.iload_n 3, 1) := by decide +kernel
theorem dX9_isBarred_42 : decode cX9_isBarred 42 = .ok (.aload_n 0, 1) := by decide +kernel
theorem dX9_isBarred_43 : decode cX9_isBarred 43 = .ok (.getfield 198, 3) := by decide +kernel
theorem dX9_isBarred_46 : decode cX9_isBarred 46 = .ok (.if_icmp .ge 32, 3) := by decide +kernel
theorem dX9_isBarred_49 : decode cX9_isBarred 49 = .ok (.aload_n 0, 1) := by decide +kernel
theorem dX9_isBarred_50 : decode cX9_isBarred 50 = .ok (.getfield 45, 3) := by decide +kernel
theorem dX9_isBarred_53 : decode cX9_isBarred 53 = .ok (.iload_n 3, 1) := by decide +kernel
theorem dX9_isBarred_54 : decode cX9_isBarred 54 = .ok (.iaload, 1) := by decide +kernel
theorem dX9_isBarred_55 : decode cX9_isBarred 55 = .ok (.iload_n 1, 1) := by decide +kernel
theorem dX9_isBarred_56 : decode cX9_isBarred 56 = .ok (.if_icmp .ne 16, 3) := by decide +kernel
theorem dX9_isBarred_59 : decode cX9_isBarred 59 = .ok (.aload_n 0, 1) := by decide +kernel
theorem dX9_isBarred_60 : decode cX9_isBarred 60 = .ok (.getfield 78, 3) := by decide +kernel
theorem dX9_isBarred_63 : decode cX9_isBarred 63 = .ok (.iload_n 3, 1) := by decide +kernel
theorem dX9_isBarred_64 : decode cX9_isBarred 64 = .ok (.iaload, 1) := by decide +kernel
theorem dX9_isBarred_65 : decode cX9_isBarred 65 = .ok (.iconst 2, 1) := by decide +kernel
theorem dX9_isBarred_66 : decode cX9_isBarred 66 = .ok (.if_icmp .ne 6, 3) := by decide +kernel
theorem dX9_isBarred_69 : decode cX9_isBarred 69 = .ok (.iinc 2 1, 3) := by decide +kernel
theorem dX9_isBarred_72 : decode cX9_isBarred 72 = .ok (.iinc 3 1, 3) := by decide +kernel
theorem dX9_isBarred_75 : decode cX9_isBarred 75 = .ok (.goto (-34), 3) := by decide +kernel
theorem dX9_isBarred_78 : decode cX9_isBarred 78 = .ok (.iload_n 2, 1) := by decide +kernel
theorem dX9_isBarred_79 : decode cX9_isBarred 79 = .ok (.aload_n 0, 1) := by decide +kernel
theorem dX9_isBarred_80 : decode cX9_isBarred 80 = .ok (.getfield 13, 3) := by decide +kernel
theorem dX9_isBarred_83 : decode cX9_isBarred 83 = .ok (.bipush 8, 2) := by decide +kernel
theorem dX9_isBarred_85 : decode cX9_isBarred 85 = .ok (.iaload, 1) := by decide +kernel
theorem dX9_isBarred_86 : decode cX9_isBarred 86 = .ok (.if_icmp .lt 7, 3) := by decide +kernel
theorem dX9_isBarred_89 : decode cX9_isBarred 89 = .ok (.iconst 1, 1) := by decide +kernel
theorem dX9_isBarred_90 : decode cX9_isBarred 90 = .ok (.goto 4, 3) := by decide +kernel
theorem dX9_isBarred_93 : decode cX9_isBarred 93 = .ok (.iconst 0, 1) := by decide +kernel
theorem dX9_isBarred_94 : decode cX9_isBarred 94 = .ok (.ireturn, 1) := by decide +kernel
theorem dX9_standsFor_0 : decode cX9_standsFor 0 = .ok (.iconst 0, 1) := by decide +kernel
theorem dX9_standsFor_1 : decode cX9_standsFor 1 = .ok (.istore_n 2, 1) := by decide +kernel
theorem dX9_standsFor_2 : decode cX9_standsFor 2 = .ok (.iconst 0, 1) := by decide +kernel
theorem dX9_standsFor_3 : decode cX9_standsFor 3 = .ok (.istore_n 3, 1) := by decide +kernel
theorem dX9_standsFor_4 : decode cX9_standsFor 4 = .ok (.iload_n 3, 1) := by decide +kernel
theorem dX9_standsFor_5 : decode cX9_standsFor 5 = .ok (.aload_n 0, 1) := by decide +kernel
theorem dX9_standsFor_6 : decode cX9_standsFor 6 = .ok (.getfield 198, 3) := by decide +kernel
theorem dX9_standsFor_9 : decode cX9_standsFor 9 = .ok (.if_icmp .ge 59, 3) := by decide +kernel
theorem dX9_standsFor_12 : decode cX9_standsFor 12 = .ok (.aload_n 0, 1) := by decide +kernel
theorem dX9_standsFor_13 : decode cX9_standsFor 13 = .ok (.getfield 78, 3) := by decide +kernel
theorem dX9_standsFor_16 : decode cX9_standsFor 16 = .ok (.iload_n 3, 1) := by decide +kernel
theorem dX9_standsFor_17 : decode cX9_standsFor 17 = .ok (.iaload, 1) := by decide +kernel
theorem dX9_standsFor_18 : decode cX9_standsFor 18 = .ok (.ifCond .eq 6, 3) := by decide +kernel
theorem dX9_standsFor_21 : decode cX9_standsFor 21 = .ok (.goto 41, 3) := by decide +kernel
theorem dX9_standsFor_24 : decode cX9_standsFor 24 = .ok (.iconst 0, 1) := by decide +kernel
theorem dX9_standsFor_25 : decode cX9_standsFor 25 = .ok (.istore 4, 2) := by decide +kernel
theorem dX9_standsFor_27 : decode cX9_standsFor 27 = .ok (.iload 4, 2) := by decide +kernel
theorem dX9_standsFor_29 : decode cX9_standsFor 29 = .ok (.aload_n 0, 1) := by decide +kernel
theorem dX9_standsFor_30 : decode cX9_standsFor 30 = .ok (.getfield 84, 3) := by decide +kernel
theorem dX9_standsFor_33 : decode cX9_standsFor 33 = .ok (.iload_n 3, 1) := by decide +kernel
theorem dX9_standsFor_34 : decode cX9_standsFor 34 = .ok (.iaload, 1) := by decide +kernel
theorem dX9_standsFor_35 : decode cX9_standsFor 35 = .ok (.if_icmp .ge 27, 3) := by decide +kernel
theorem dX9_standsFor_38 : decode cX9_standsFor 38 = .ok (.aload_n 0, 1) := by decide +kernel
theorem dX9_standsFor_39 : decode cX9_standsFor 39 = .ok (.getfield 87, 3) := by decide +kernel
theorem dX9_standsFor_42 : decode cX9_standsFor 42 = .ok (.iconst 3, 1) := by decide +kernel
theorem dX9_standsFor_43 : decode cX9_standsFor 43 = .ok (.iload_n 3, 1) := by decide +kernel
theorem dX9_standsFor_44 : decode cX9_standsFor 44 = .ok (.imul, 1) := by decide +kernel
theorem dX9_standsFor_45 : decode cX9_standsFor 45 = .ok (.iload 4, 2) := by decide +kernel
theorem dX9_standsFor_47 : decode cX9_standsFor 47 = .ok (.iadd, 1) := by decide +kernel
theorem dX9_standsFor_48 : decode cX9_standsFor 48 = .ok (.iaload, 1) := by decide +kernel
theorem dX9_standsFor_49 : decode cX9_standsFor 49 = .ok (.iload_n 1, 1) := by decide +kernel
theorem dX9_standsFor_50 : decode cX9_standsFor 50 = .ok (.if_icmp .ne 6, 3) := by decide +kernel
theorem dX9_standsFor_53 : decode cX9_standsFor 53 = .ok (.iinc 2 1, 3) := by decide +kernel
theorem dX9_standsFor_56 : decode cX9_standsFor 56 = .ok (.iinc 4 1, 3) := by decide +kernel
theorem dX9_standsFor_59 : decode cX9_standsFor 59 = .ok (.goto (-32), 3) := by decide +kernel
theorem dX9_standsFor_62 : decode cX9_standsFor 62 = .ok (.iinc 3 1, 3) := by decide +kernel
theorem dX9_standsFor_65 : decode cX9_standsFor 65 = .ok (.goto (-61), 3) := by decide +kernel
theorem dX9_standsFor_68 : decode cX9_standsFor 68 = .ok (.iload_n 2, 1) := by decide +kernel
theorem dX9_standsFor_69 : decode cX9_standsFor 69 = .ok (.ireturn, 1) := by decide +kernel
theorem dX9_steps_0 : decode cX9_steps 0 = .ok (.iconst 0, 1) := by decide +kernel
theorem dX9_steps_1 : decode cX9_steps 1 = .ok (.istore_n 2, 1) := by decide +kernel
theorem dX9_steps_2 : decode cX9_steps 2 = .ok (.iconst 0, 1) := by decide +kernel
theorem dX9_steps_3 : decode cX9_steps 3 = .ok (.istore_n 3, 1) := by decide +kernel
theorem dX9_steps_4 : decode cX9_steps 4 = .ok (.iload_n 3, 1) := by decide +kernel
theorem dX9_steps_5 : decode cX9_steps 5 = .ok (.aload_n 0, 1) := by decide +kernel
theorem dX9_steps_6 : decode cX9_steps 6 = .ok (.getfield 198, 3) := by decide +kernel
theorem dX9_steps_9 : decode cX9_steps 9 = .ok (.if_icmp .ge 95, 3) := by decide +kernel
theorem dX9_steps_12 : decode cX9_steps 12 = .ok (.aload_n 0, 1) := by decide +kernel
theorem dX9_steps_13 : decode cX9_steps 13 = .ok (.getfield 78, 3) := by decide +kernel
theorem dX9_steps_16 : decode cX9_steps 16 = .ok (.iload_n 3, 1) := by decide +kernel
theorem dX9_steps_17 : decode cX9_steps 17 = .ok (.iaload, 1) := by decide +kernel
theorem dX9_steps_18 : decode cX9_steps 18 = .ok (.ifCond .ne 80, 3) := by decide +kernel
theorem dX9_steps_21 : decode cX9_steps 21 = .ok (.aload_n 0, 1) := by decide +kernel
theorem dX9_steps_22 : decode cX9_steps 22 = .ok (.getfield 102, 3) := by decide +kernel
theorem dX9_steps_25 : decode cX9_steps 25 = .ok (.aload_n 0, 1) := by decide +kernel
theorem dX9_steps_26 : decode cX9_steps 26 = .ok (.getfield 45, 3) := by decide +kernel
theorem dX9_steps_29 : decode cX9_steps 29 = .ok (.iload_n 3, 1) := by decide +kernel
theorem dX9_steps_30 : decode cX9_steps 30 = .ok (.iaload, 1) := by decide +kernel
theorem dX9_steps_31 : decode cX9_steps 31 = .ok (.iaload, 1) := by decide +kernel
theorem dX9_steps_32 : decode cX9_steps 32 = .ok (.iload_n 1, 1) := by decide +kernel
theorem dX9_steps_33 : decode cX9_steps 33 = .ok (.if_icmp .eq 6, 3) := by decide +kernel
theorem dX9_steps_36 : decode cX9_steps 36 = .ok (.goto 62, 3) := by decide +kernel
theorem dX9_steps_39 : decode cX9_steps 39 = .ok (.iconst 0, 1) := by decide +kernel
theorem dX9_steps_40 : decode cX9_steps 40 = .ok (.istore 4, 2) := by decide +kernel
theorem dX9_steps_42 : decode cX9_steps 42 = .ok (.iload 4, 2) := by decide +kernel
theorem dX9_steps_44 : decode cX9_steps 44 = .ok (.aload_n 0, 1) := by decide +kernel
theorem dX9_steps_45 : decode cX9_steps 45 = .ok (.getfield 84, 3) := by decide +kernel
theorem dX9_steps_48 : decode cX9_steps 48 = .ok (.iload_n 3, 1) := by decide +kernel
theorem dX9_steps_49 : decode cX9_steps 49 = .ok (.iaload, 1) := by decide +kernel
theorem dX9_steps_50 : decode cX9_steps 50 = .ok (.if_icmp .ge 48, 3) := by decide +kernel
theorem dX9_steps_53 : decode cX9_steps 53 = .ok (.aload_n 0, 1) := by decide +kernel
theorem dX9_steps_54 : decode cX9_steps 54 = .ok (.getfield 87, 3) := by decide +kernel
theorem dX9_steps_57 : decode cX9_steps 57 = .ok (.iconst 3, 1) := by decide +kernel
theorem dX9_steps_58 : decode cX9_steps 58 = .ok (.iload_n 3, 1) := by decide +kernel
theorem dX9_steps_59 : decode cX9_steps 59 = .ok (.imul, 1) := by decide +kernel
theorem dX9_steps_60 : decode cX9_steps 60 = .ok (.iload 4, 2) := by decide +kernel
theorem dX9_steps_62 : decode cX9_steps 62 = .ok (.iadd, 1) := by decide +kernel
theorem dX9_steps_63 : decode cX9_steps 63 = .ok (.iaload, 1) := by decide +kernel
theorem dX9_steps_64 : decode cX9_steps 64 = .ok (.istore 5, 2) := by decide +kernel
theorem dX9_steps_66 : decode cX9_steps 66 = .ok (.aload_n 0, 1) := by decide +kernel
theorem dX9_steps_67 : decode cX9_steps 67 = .ok (.getfield 102, 3) := by decide +kernel
theorem dX9_steps_70 : decode cX9_steps 70 = .ok (.iload 5, 2) := by decide +kernel
theorem dX9_steps_72 : decode cX9_steps 72 = .ok (.iaload, 1) := by decide +kernel
theorem dX9_steps_73 : decode cX9_steps 73 = .ok (.iconst (-1), 1) := by decide +kernel
theorem dX9_steps_74 : decode cX9_steps 74 = .ok (.if_icmp .eq 6, 3) := by decide +kernel
theorem dX9_steps_77 : decode cX9_steps 77 = .ok (.goto 15, 3) := by decide +kernel
theorem dX9_steps_80 : decode cX9_steps 80 = .ok (.aload_n 0, 1) := by decide +kernel
theorem dX9_steps_81 : decode cX9_steps 81 = .ok (.getfield 102, 3) := by decide +kernel
theorem dX9_steps_84 : decode cX9_steps 84 = .ok (.iload 5, 2) := by decide +kernel
theorem dX9_steps_86 : decode cX9_steps 86 = .ok (.iload_n 1, 1) := by decide +kernel
theorem dX9_steps_87 : decode cX9_steps 87 = .ok (.iconst 1, 1) := by decide +kernel
theorem dX9_steps_88 : decode cX9_steps 88 = .ok (.iadd, 1) := by decide +kernel
theorem dX9_steps_89 : decode cX9_steps 89 = .ok (.iastore, 1) := by decide +kernel
theorem dX9_steps_90 : decode cX9_steps 90 = .ok (.iconst 1, 1) := by decide +kernel
theorem dX9_steps_91 : decode cX9_steps 91 = .ok (.istore_n 2, 1) := by decide +kernel
theorem dX9_steps_92 : decode cX9_steps 92 = .ok (.iinc 4 1, 3) := by decide +kernel
theorem dX9_steps_95 : decode cX9_steps 95 = .ok (.goto (-53), 3) := by decide +kernel
theorem dX9_steps_98 : decode cX9_steps 98 = .ok (.iinc 3 1, 3) := by decide +kernel
theorem dX9_steps_101 : decode cX9_steps 101 = .ok (.goto (-97), 3) := by decide +kernel
theorem dX9_steps_104 : decode cX9_steps 104 = .ok (.iload_n 2, 1) := by decide +kernel
theorem dX9_steps_105 : decode cX9_steps 105 = .ok (.ireturn, 1) := by decide +kernel
theorem dX9_spread_0 : decode cX9_spread 0 = .ok (.iconst 1, 1) := by decide +kernel
theorem dX9_spread_1 : decode cX9_spread 1 = .ok (.istore_n 1, 1) := by decide +kernel
theorem dX9_spread_2 : decode cX9_spread 2 = .ok (.aload_n 0, 1) := by decide +kernel
theorem dX9_spread_3 : decode cX9_spread 3 = .ok (.iload_n 1, 1) := by decide +kernel
theorem dX9_spread_4 : decode cX9_spread 4 = .ok (.invokevirtual 204, 3) := by decide +kernel
theorem dX9_spread_7 : decode cX9_spread 7 = .ok (.ifCond .eq 9, 3) := by decide +kernel
theorem dX9_spread_10 : decode cX9_spread 10 = .ok (.iinc 1 1, 3) := by decide +kernel
theorem dX9_spread_13 : decode cX9_spread 13 = .ok (.goto (-11), 3) := by decide +kernel
theorem dX9_spread_16 : decode cX9_spread 16 = .ok (.return_, 1) := by decide +kernel
theorem dX9_clear_0 : decode cX9_clear 0 = .ok (.iconst 0, 1) := by decide +kernel
theorem dX9_clear_1 : decode cX9_clear 1 = .ok (.istore_n 1, 1) := by decide +kernel
theorem dX9_clear_2 : decode cX9_clear 2 = .ok (.iload_n 1, 1) := by decide +kernel
theorem dX9_clear_3 : decode cX9_clear 3 = .ok (.bipush 40, 2) := by decide +kernel
theorem dX9_clear_5 : decode cX9_clear 5 = .ok (.if_icmp .ge 16, 3) := by decide +kernel
theorem dX9_clear_8 : decode cX9_clear 8 = .ok (.aload_n 0, 1) := by decide +kernel
theorem dX9_clear_9 : decode cX9_clear 9 = .ok (.getfield 102, 3) := by decide +kernel
theorem dX9_clear_12 : decode cX9_clear 12 = .ok (.iload_n 1, 1) := by decide +kernel
theorem dX9_clear_13 : decode cX9_clear 13 = .ok (.iconst (-1), 1) := by decide +kernel
theorem dX9_clear_14 : decode cX9_clear 14 = .ok (.iastore, 1) := by decide +kernel
theorem dX9_clear_15 : decode cX9_clear 15 = .ok (.iinc 1 1, 3) := by decide +kernel
theorem dX9_clear_18 : decode cX9_clear 18 = .ok (.goto (-16), 3) := by decide +kernel
theorem dX9_clear_21 : decode cX9_clear 21 = .ok (.return_, 1) := by decide +kernel
theorem dX9_isTwice_0 : decode cX9_isTwice 0 = .ok (.iconst 0, 1) := by decide +kernel
theorem dX9_isTwice_1 : decode cX9_isTwice 1 = .ok (.istore_n 3, 1) := by decide +kernel
theorem dX9_isTwice_2 : decode cX9_isTwice 2 = .ok (.iload_n 3, 1) := by decide +kernel
theorem dX9_isTwice_3 : decode cX9_isTwice 3 = .ok (.iload_n 2, 1) := by decide +kernel
theorem dX9_isTwice_4 : decode cX9_isTwice 4 = .ok (.if_icmp .ge 26, 3) := by decide +kernel
theorem dX9_isTwice_7 : decode cX9_isTwice 7 = .ok (.aload_n 0, 1) := by decide +kernel
theorem dX9_isTwice_8 : decode cX9_isTwice 8 = .ok (.getfield 7, 3) := by decide +kernel
theorem dX9_isTwice_11 : decode cX9_isTwice 11 = .ok (.iload_n 3, 1) := by decide +kernel
theorem dX9_isTwice_12 : decode cX9_isTwice 12 = .ok (.iaload, 1) := by decide +kernel
theorem dX9_isTwice_13 : decode cX9_isTwice 13 = .ok (.aload_n 0, 1) := by decide +kernel
theorem dX9_isTwice_14 : decode cX9_isTwice 14 = .ok (.getfield 7, 3) := by decide +kernel
theorem dX9_isTwice_17 : decode cX9_isTwice 17 = .ok (.iload_n 2, 1) := by decide +kernel
theorem dX9_isTwice_18 : decode cX9_isTwice 18 = .ok (.iaload, 1) := by decide +kernel
theorem dX9_isTwice_19 : decode cX9_isTwice 19 = .ok (.if_icmp .ne 5, 3) := by decide +kernel
theorem dX9_isTwice_22 : decode cX9_isTwice 22 = .ok (.iconst 1, 1) := by decide +kernel
theorem dX9_isTwice_23 : decode cX9_isTwice 23 = .ok (.ireturn, 1) := by decide +kernel
theorem dX9_isTwice_24 : decode cX9_isTwice 24 = .ok (.iinc 3 1, 3) := by decide +kernel
theorem dX9_isTwice_27 : decode cX9_isTwice 27 = .ok (.goto (-25), 3) := by decide +kernel
theorem dX9_isTwice_30 : decode cX9_isTwice 30 = .ok (.iconst 0, 1) := by decide +kernel
theorem dX9_isTwice_31 : decode cX9_isTwice 31 = .ok (.ireturn, 1) := by decide +kernel
theorem dX9_why_0 : decode cX9_why 0 = .ok (.aload_n 0, 1) := by decide +kernel
theorem dX9_why_1 : decode cX9_why 1 = .ok (.iload_n 1, 1) := by decide +kernel
theorem dX9_why_2 : decode cX9_why 2 = .ok (.invokevirtual 187, 3) := by decide +kernel
theorem dX9_why_5 : decode cX9_why 5 = .ok (.ifCond .ne 5, 3) := by decide +kernel
theorem dX9_why_8 : decode cX9_why 8 = .ok (.iconst 1, 1) := by decide +kernel
theorem dX9_why_9 : decode cX9_why 9 = .ok (.ireturn, 1) := by decide +kernel
theorem dX9_why_10 : decode cX9_why 10 = .ok (.iload_n 2, 1) := by decide +kernel
theorem dX9_why_11 : decode cX9_why 11 = .ok (.iconst 1, 1) := by decide +kernel
theorem dX9_why_12 : decode cX9_why 12 = .ok (.if_icmp .lt 22, 3) := by decide +kernel
theorem dX9_why_15 : decode cX9_why 15 = .ok (.iload_n 2, 1) := by decide +kernel
theorem dX9_why_16 : decode cX9_why 16 = .ok (.aload_n 0, 1) := by decide +kernel
theorem dX9_why_17 : decode cX9_why 17 = .ok (.getfield 13, 3) := by decide +kernel
theorem dX9_why_20 : decode cX9_why 20 = .ok (.iconst 0, 1) := by decide +kernel
theorem dX9_why_21 : decode cX9_why 21 = .ok (.iaload, 1) := by decide +kernel
theorem dX9_why_22 : decode cX9_why 22 = .ok (.if_icmp .gt 12, 3) := by decide +kernel
theorem dX9_why_25 : decode cX9_why 25 = .ok (.aload_n 0, 1) := by decide +kernel
theorem dX9_why_26 : decode cX9_why 26 = .ok (.getfield 198, 3) := by decide +kernel
theorem dX9_why_29 : decode cX9_why 29 = .ok (.bipush 100, 2) := by decide +kernel
theorem dX9_why_31 : decode cX9_why 31 = .ok (.if_icmp .ne 5, 3) := by decide +kernel
theorem dX9_why_34 : decode cX9_why 34 = .ok (.iconst 2, 1) := by decide +kernel
theorem dX9_why_35 : decode cX9_why 35 = .ok (.ireturn, 1) := by decide +kernel
theorem dX9_why_36 : decode cX9_why 36 = .ok (.aload_n 0, 1) := by decide +kernel
theorem dX9_why_37 : decode cX9_why 37 = .ok (.iload_n 1, 1) := by decide +kernel
theorem dX9_why_38 : decode cX9_why 38 = .ok (.invokevirtual 207, 3) := by decide +kernel
theorem dX9_why_41 : decode cX9_why 41 = .ok (.iconst (-1), 1) := by decide +kernel
theorem dX9_why_42 : decode cX9_why 42 = .ok (.if_icmp .eq 5, 3) := by decide +kernel
theorem dX9_why_45 : decode cX9_why 45 = .ok (.iconst 3, 1) := by decide +kernel
theorem dX9_why_46 : decode cX9_why 46 = .ok (.ireturn, 1) := by decide +kernel
theorem dX9_why_47 : decode cX9_why 47 = .ok (.aload_n 0, 1) := by decide +kernel
theorem dX9_why_48 : decode cX9_why 48 = .ok (.iload_n 1, 1) := by decide +kernel
theorem dX9_why_49 : decode cX9_why 49 = .ok (.invokevirtual 210, 3) := by decide +kernel
theorem dX9_why_52 : decode cX9_why 52 = .ok (.ifCond .eq 5, 3) := by decide +kernel
theorem dX9_why_55 : decode cX9_why 55 = .ok (.iconst 4, 1) := by decide +kernel
theorem dX9_why_56 : decode cX9_why 56 = .ok (.ireturn, 1) := by decide +kernel
theorem dX9_why_57 : decode cX9_why 57 = .ok (.iload_n 3, 1) := by decide +kernel
theorem dX9_why_58 : decode cX9_why 58 = .ok (.aload_n 0, 1) := by decide +kernel
theorem dX9_why_59 : decode cX9_why 59 = .ok (.getfield 13, 3) := by decide +kernel
theorem dX9_why_62 : decode cX9_why 62 = .ok (.iconst 2, 1) := by decide +kernel
theorem dX9_why_63 : decode cX9_why 63 = .ok (.iaload, 1) := by decide +kernel
theorem dX9_why_64 : decode cX9_why 64 = .ok (.if_icmp .eq 5, 3) := by decide +kernel
theorem dX9_why_67 : decode cX9_why 67 = .ok (.iconst 5, 1) := by decide +kernel
theorem dX9_why_68 : decode cX9_why 68 = .ok (.ireturn, 1) := by decide +kernel
theorem dX9_why_69 : decode cX9_why 69 = .ok (.iconst 0, 1) := by decide +kernel
theorem dX9_why_70 : decode cX9_why 70 = .ok (.istore 4, 2) := by decide +kernel
theorem dX9_why_72 : decode cX9_why 72 = .ok (.iload 4, 2) := by decide +kernel
theorem dX9_why_74 : decode cX9_why 74 = .ok (.iload_n 3, 1) := by decide +kernel
theorem dX9_why_75 : decode cX9_why 75 = .ok (.if_icmp .ge 47, 3) := by decide +kernel
theorem dX9_why_78 : decode cX9_why 78 = .ok (.aload_n 0, 1) := by decide +kernel
theorem dX9_why_79 : decode cX9_why 79 = .ok (.aload_n 0, 1) := by decide +kernel
theorem dX9_why_80 : decode cX9_why 80 = .ok (.getfield 7, 3) := by decide +kernel
theorem dX9_why_83 : decode cX9_why 83 = .ok (.iload 4, 2) := by decide +kernel
theorem dX9_why_85 : decode cX9_why 85 = .ok (.iaload, 1) := by decide +kernel
theorem dX9_why_86 : decode cX9_why 86 = .ok (.invokevirtual 187, 3) := by decide +kernel
theorem dX9_why_89 : decode cX9_why 89 = .ok (.ifCond .eq 24, 3) := by decide +kernel
theorem dX9_why_92 : decode cX9_why 92 = .ok (.aload_n 0, 1) := by decide +kernel
theorem dX9_why_93 : decode cX9_why 93 = .ok (.getfield 7, 3) := by decide +kernel
theorem dX9_why_96 : decode cX9_why 96 = .ok (.iload 4, 2) := by decide +kernel
theorem dX9_why_98 : decode cX9_why 98 = .ok (.iaload, 1) := by decide +kernel
theorem dX9_why_99 : decode cX9_why 99 = .ok (.iload_n 1, 1) := by decide +kernel
theorem dX9_why_100 : decode cX9_why 100 = .ok (.if_icmp .eq 13, 3) := by decide +kernel
theorem dX9_why_103 : decode cX9_why 103 = .ok (.aload_n 0, 1) := by decide +kernel
theorem dX9_why_104 : decode cX9_why 104 = .ok (.iload_n 3, 1) := by decide +kernel
theorem dX9_why_105 : decode cX9_why 105 = .ok (.iload 4, 2) := by decide +kernel
theorem dX9_why_107 : decode cX9_why 107 = .ok (.invokevirtual 213, 3) := by decide +kernel
theorem dX9_why_110 : decode cX9_why 110 = .ok (.ifCond .eq 6, 3) := by decide +kernel
theorem dX9_why_113 : decode cX9_why 113 = .ok (.bipush 6, 2) := by decide +kernel
theorem dX9_why_115 : decode cX9_why 115 = .ok (.ireturn, 1) := by decide +kernel
theorem dX9_why_116 : decode cX9_why 116 = .ok (.iinc 4 1, 3) := by decide +kernel
theorem dX9_why_119 : decode cX9_why 119 = .ok (.goto (-47), 3) := by decide +kernel
theorem dX9_why_122 : decode cX9_why 122 = .ok (.iconst 0, 1) := by decide +kernel
theorem dX9_why_123 : decode cX9_why 123 = .ok (.istore 4, 2) := by decide +kernel
theorem dX9_why_125 : decode cX9_why 125 = .ok (.iload 4, 2) := by decide +kernel
theorem dX9_why_127 : decode cX9_why 127 = .ok (.iload_n 3, 1) := by decide +kernel
theorem dX9_why_128 : decode cX9_why 128 = .ok (.if_icmp .ge 26, 3) := by decide +kernel
theorem dX9_why_131 : decode cX9_why 131 = .ok (.aload_n 0, 1) := by decide +kernel
theorem dX9_why_132 : decode cX9_why 132 = .ok (.aload_n 0, 1) := by decide +kernel
theorem dX9_why_133 : decode cX9_why 133 = .ok (.getfield 7, 3) := by decide +kernel
theorem dX9_why_136 : decode cX9_why 136 = .ok (.iload 4, 2) := by decide +kernel
theorem dX9_why_138 : decode cX9_why 138 = .ok (.iaload, 1) := by decide +kernel
theorem dX9_why_139 : decode cX9_why 139 = .ok (.invokevirtual 210, 3) := by decide +kernel
theorem dX9_why_142 : decode cX9_why 142 = .ok (.ifCond .eq 6, 3) := by decide +kernel
theorem dX9_why_145 : decode cX9_why 145 = .ok (.bipush 7, 2) := by decide +kernel
theorem dX9_why_147 : decode cX9_why 147 = .ok (.ireturn, 1) := by decide +kernel
theorem dX9_why_148 : decode cX9_why 148 = .ok (.iinc 4 1, 3) := by decide +kernel
theorem dX9_why_151 : decode cX9_why 151 = .ok (.goto (-26), 3) := by decide +kernel
theorem dX9_why_154 : decode cX9_why 154 = .ok (.iconst 0, 1) := by decide +kernel
theorem dX9_why_155 : decode cX9_why 155 = .ok (.istore 4, 2) := by decide +kernel
theorem dX9_why_157 : decode cX9_why 157 = .ok (.iload 4, 2) := by decide +kernel
theorem dX9_why_159 : decode cX9_why 159 = .ok (.iload_n 3, 1) := by decide +kernel
theorem dX9_why_160 : decode cX9_why 160 = .ok (.if_icmp .ge 32, 3) := by decide +kernel
theorem dX9_why_163 : decode cX9_why 163 = .ok (.aload_n 0, 1) := by decide +kernel
theorem dX9_why_164 : decode cX9_why 164 = .ok (.aload_n 0, 1) := by decide +kernel
theorem dX9_why_165 : decode cX9_why 165 = .ok (.getfield 7, 3) := by decide +kernel
theorem dX9_why_168 : decode cX9_why 168 = .ok (.iload 4, 2) := by decide +kernel
theorem dX9_why_170 : decode cX9_why 170 = .ok (.iaload, 1) := by decide +kernel
theorem dX9_why_171 : decode cX9_why 171 = .ok (.invokevirtual 217, 3) := by decide +kernel
theorem dX9_why_174 : decode cX9_why 174 = .ok (.aload_n 0, 1) := by decide +kernel
theorem dX9_why_175 : decode cX9_why 175 = .ok (.getfield 13, 3) := by decide +kernel
theorem dX9_why_178 : decode cX9_why 178 = .ok (.iconst 3, 1) := by decide +kernel
theorem dX9_why_179 : decode cX9_why 179 = .ok (.iaload, 1) := by decide +kernel
theorem dX9_why_180 : decode cX9_why 180 = .ok (.if_icmp .lt 6, 3) := by decide +kernel
theorem dX9_why_183 : decode cX9_why 183 = .ok (.bipush 8, 2) := by decide +kernel
theorem dX9_why_185 : decode cX9_why 185 = .ok (.ireturn, 1) := by decide +kernel
theorem dX9_why_186 : decode cX9_why 186 = .ok (.iinc 4 1, 3) := by decide +kernel
theorem dX9_why_189 : decode cX9_why 189 = .ok (.goto (-32), 3) := by decide +kernel
theorem dX9_why_192 : decode cX9_why 192 = .ok (.aload_n 0, 1) := by decide +kernel
theorem dX9_why_193 : decode cX9_why 193 = .ok (.invokevirtual 220, 3) := by decide +kernel
theorem dX9_why_196 : decode cX9_why 196 = .ok (.iconst 0, 1) := by decide +kernel
theorem dX9_why_197 : decode cX9_why 197 = .ok (.istore 4, 2) := by decide +kernel
theorem dX9_why_199 : decode cX9_why 199 = .ok (.iload 4, 2) := by decide +kernel
theorem dX9_why_201 : decode cX9_why 201 = .ok (.iload_n 3, 1) := by decide +kernel
theorem dX9_why_202 : decode cX9_why 202 = .ok (.if_icmp .ge 22, 3) := by decide +kernel
theorem dX9_why_205 : decode cX9_why 205 = .ok (.aload_n 0, 1) := by decide +kernel
theorem dX9_why_206 : decode cX9_why 206 = .ok (.getfield 102, 3) := by decide +kernel
theorem dX9_why_209 : decode cX9_why 209 = .ok (.aload_n 0, 1) := by decide +kernel
theorem dX9_why_210 : decode cX9_why 210 = .ok (.getfield 7, 3) := by decide +kernel
theorem dX9_why_213 : decode cX9_why 213 = .ok (.iload 4, 2) := by decide +kernel
theorem dX9_why_215 : decode cX9_why 215 = .ok (.iaload, 1) := by decide +kernel
theorem dX9_why_216 : decode cX9_why 216 = .ok (.iconst 1, 1) := by decide +kernel
theorem dX9_why_217 : decode cX9_why 217 = .ok (.iastore, 1) := by decide +kernel
theorem dX9_why_218 : decode cX9_why 218 = .ok (.iinc 4 1, 3) := by decide +kernel
theorem dX9_why_221 : decode cX9_why 221 = .ok (.goto (-22), 3) := by decide +kernel
theorem dX9_why_224 : decode cX9_why 224 = .ok (.aload_n 0, 1) := by decide +kernel
theorem dX9_why_225 : decode cX9_why 225 = .ok (.invokevirtual 223, 3) := by decide +kernel
theorem dX9_why_228 : decode cX9_why 228 = .ok (.aload_n 0, 1) := by decide +kernel
theorem dX9_why_229 : decode cX9_why 229 = .ok (.getfield 102, 3) := by decide +kernel
theorem dX9_why_232 : decode cX9_why 232 = .ok (.iload_n 1, 1) := by decide +kernel
theorem dX9_why_233 : decode cX9_why 233 = .ok (.iaload, 1) := by decide +kernel
theorem dX9_why_234 : decode cX9_why 234 = .ok (.iconst (-1), 1) := by decide +kernel
theorem dX9_why_235 : decode cX9_why 235 = .ok (.if_icmp .eq 22, 3) := by decide +kernel
theorem dX9_why_238 : decode cX9_why 238 = .ok (.aload_n 0, 1) := by decide +kernel
theorem dX9_why_239 : decode cX9_why 239 = .ok (.getfield 102, 3) := by decide +kernel
theorem dX9_why_242 : decode cX9_why 242 = .ok (.iload_n 1, 1) := by decide +kernel
theorem dX9_why_243 : decode cX9_why 243 = .ok (.iaload, 1) := by decide +kernel
theorem dX9_why_244 : decode cX9_why 244 = .ok (.aload_n 0, 1) := by decide +kernel
theorem dX9_why_245 : decode cX9_why 245 = .ok (.getfield 13, 3) := by decide +kernel
theorem dX9_why_248 : decode cX9_why 248 = .ok (.bipush 7, 2) := by decide +kernel
theorem dX9_why_250 : decode cX9_why 250 = .ok (.iaload, 1) := by decide +kernel
theorem dX9_why_251 : decode cX9_why 251 = .ok (.if_icmp .gt 6, 3) := by decide +kernel
theorem dX9_why_254 : decode cX9_why 254 = .ok (.bipush 9, 2) := by decide +kernel
theorem dX9_why_256 : decode cX9_why 256 = .ok (.ireturn, 1) := by decide +kernel
theorem dX9_why_257 : decode cX9_why 257 = .ok (.aload_n 0, 1) := by decide +kernel
theorem dX9_why_258 : decode cX9_why 258 = .ok (.getfield 35, 3) := by decide +kernel
theorem dX9_why_261 : decode cX9_why 261 = .ok (.iconst 0, 1) := by decide +kernel
theorem dX9_why_262 : decode cX9_why 262 = .ok (.iaload, 1) := by decide +kernel
theorem dX9_why_263 : decode cX9_why 263 = .ok (.aload_n 0, 1) := by decide +kernel
theorem dX9_why_264 : decode cX9_why 264 = .ok (.getfield 13, 3) := by decide +kernel
theorem dX9_why_267 : decode cX9_why 267 = .ok (.bipush 6, 2) := by decide +kernel
theorem dX9_why_269 : decode cX9_why 269 = .ok (.iaload, 1) := by decide +kernel
theorem dX9_why_270 : decode cX9_why 270 = .ok (.if_icmp .le 20, 3) := by decide +kernel
theorem dX9_why_273 : decode cX9_why 273 = .ok (.aload_n 0, 1) := by decide +kernel
theorem dX9_why_274 : decode cX9_why 274 = .ok (.getfield 35, 3) := by decide +kernel
theorem dX9_why_277 : decode cX9_why 277 = .ok (.iconst 0, 1) := by decide +kernel
theorem dX9_why_278 : decode cX9_why 278 = .ok (.iaload, 1) := by decide +kernel
theorem dX9_why_279 : decode cX9_why 279 = .ok (.aload_n 0, 1) := by decide +kernel
theorem dX9_why_280 : decode cX9_why 280 = .ok (.getfield 13, 3) := by decide +kernel
theorem dX9_why_283 : decode cX9_why 283 = .ok (.bipush 6, 2) := by decide +kernel
theorem dX9_why_285 : decode cX9_why 285 = .ok (.iaload, 1) := by decide +kernel
theorem dX9_why_286 : decode cX9_why 286 = .ok (.isub, 1) := by decide +kernel
theorem dX9_why_287 : decode cX9_why 287 = .ok (.goto 4, 3) := by decide +kernel
theorem dX9_why_290 : decode cX9_why 290 = .ok (.iconst 0, 1) := by decide +kernel
theorem dX9_why_291 : decode cX9_why 291 = .ok (.istore 4, 2) := by decide +kernel
theorem dX9_why_293 : decode cX9_why 293 = .ok (.iconst 1, 1) := by decide +kernel
theorem dX9_why_294 : decode cX9_why 294 = .ok (.istore 5, 2) := by decide +kernel
theorem dX9_why_296 : decode cX9_why 296 = .ok (.iload 5, 2) := by decide +kernel
theorem dX9_why_298 : decode cX9_why 298 = .ok (.aload_n 0, 1) := by decide +kernel
theorem dX9_why_299 : decode cX9_why 299 = .ok (.getfield 41, 3) := by decide +kernel
theorem dX9_why_302 : decode cX9_why 302 = .ok (.if_icmp .ge 41, 3) := by decide +kernel
theorem dX9_why_305 : decode cX9_why 305 = .ok (.aload_n 0, 1) := by decide +kernel
theorem dX9_why_306 : decode cX9_why 306 = .ok (.getfield 29, 3) := by decide +kernel
theorem dX9_why_309 : decode cX9_why 309 = .ok (.iload_n 1, 1) := by decide +kernel
theorem dX9_why_310 : decode cX9_why 310 = .ok (.iaload, 1) := by decide +kernel
theorem dX9_why_311 : decode cX9_why 311 = .ok (.aload_n 0, 1) := by decide +kernel
theorem dX9_why_312 : decode cX9_why 312 = .ok (.getfield 32, 3) := by decide +kernel
theorem dX9_why_315 : decode cX9_why 315 = .ok (.iload 5, 2) := by decide +kernel
theorem dX9_why_317 : decode cX9_why 317 = .ok (.iaload, 1) := by decide +kernel
theorem dX9_why_318 : decode cX9_why 318 = .ok (.ishr, 1) := by decide +kernel
theorem dX9_why_319 : decode cX9_why 319 = .ok (.iconst 1, 1) := by decide +kernel
theorem dX9_why_320 : decode cX9_why 320 = .ok (.iand, 1) := by decide +kernel
theorem dX9_why_321 : decode cX9_why 321 = .ok (.iconst 1, 1) := by decide +kernel
theorem dX9_why_322 : decode cX9_why 322 = .ok (.if_icmp .ne 15, 3) := by decide +kernel
theorem dX9_why_325 : decode cX9_why 325 = .ok (.iload 4, 2) := by decide +kernel
theorem dX9_why_327 : decode cX9_why 327 = .ok (.aload_n 0, 1) := by decide +kernel
theorem dX9_why_328 : decode cX9_why 328 = .ok (.getfield 35, 3) := by decide +kernel
theorem dX9_why_331 : decode cX9_why 331 = .ok (.iload 5, 2) := by decide +kernel
theorem dX9_why_333 : decode cX9_why 333 = .ok (.iaload, 1) := by decide +kernel
theorem dX9_why_334 : decode cX9_why 334 = .ok (.iadd, 1) := by decide +kernel
theorem dX9_why_335 : decode cX9_why 335 = .ok (.istore 4, 2) := by decide +kernel
theorem dX9_why_337 : decode cX9_why 337 = .ok (.iinc 5 1, 3) := by decide +kernel
theorem dX9_why_340 : decode cX9_why 340 = .ok (.goto (-44), 3) := by decide +kernel
theorem dX9_why_343 : decode cX9_why 343 = .ok (.iload 4, 2) := by decide +kernel
theorem dX9_why_345 : decode cX9_why 345 = .ok (.iload_n 2, 1) := by decide +kernel
theorem dX9_why_346 : decode cX9_why 346 = .ok (.if_icmp .ge 8, 3) := by decide +kernel
theorem dX9_why_349 : decode cX9_why 349 = .ok (.bipush 10, 2) := by decide +kernel
theorem dX9_why_351 : decode cX9_why 351 = .ok (.goto 4, 3) := by decide +kernel
theorem dX9_why_354 : decode cX9_why 354 = .ok (.iconst 0, 1) := by decide +kernel
theorem dX9_why_355 : decode cX9_why 355 = .ok (.ireturn, 1) := by decide +kernel
theorem dX9_ask_0 : decode cX9_ask 0 = .ok (.aload_n 0, 1) := by decide +kernel
theorem dX9_ask_1 : decode cX9_ask 1 = .ok (.iconst 0, 1) := by decide +kernel
theorem dX9_ask_2 : decode cX9_ask 2 = .ok (.putfield 105, 3) := by decide +kernel
theorem dX9_ask_5 : decode cX9_ask 5 = .ok (.aload_n 0, 1) := by decide +kernel
theorem dX9_ask_6 : decode cX9_ask 6 = .ok (.getfield 108, 3) := by decide +kernel
theorem dX9_ask_9 : decode cX9_ask 9 = .ok (.istore_n 3, 1) := by decide +kernel
theorem dX9_ask_10 : decode cX9_ask 10 = .ok (.aload_n 0, 1) := by decide +kernel
theorem dX9_ask_11 : decode cX9_ask 11 = .ok (.iconst 0, 1) := by decide +kernel
theorem dX9_ask_12 : decode cX9_ask 12 = .ok (.putfield 108, 3) := by decide +kernel
theorem dX9_ask_15 : decode cX9_ask 15 = .ok (.aload_n 0, 1) := by decide +kernel
theorem dX9_ask_16 : decode cX9_ask 16 = .ok (.iload_n 1, 1) := by decide +kernel
theorem dX9_ask_17 : decode cX9_ask 17 = .ok (.iload_n 2, 1) := by decide +kernel
theorem dX9_ask_18 : decode cX9_ask 18 = .ok (.iload_n 3, 1) := by decide +kernel
theorem dX9_ask_19 : decode cX9_ask 19 = .ok (.invokevirtual 226, 3) := by decide +kernel
theorem dX9_ask_22 : decode cX9_ask 22 = .ok (.istore 4, 2) := by decide +kernel
theorem dX9_ask_24 : decode cX9_ask 24 = .ok (.iload 4, 2) := by decide +kernel
theorem dX9_ask_26 : decode cX9_ask 26 = .ok (.ifCond .le 8, 3) := by decide +kernel
theorem dX9_ask_29 : decode cX9_ask 29 = .ok (.iconst (-1), 1) := by decide +kernel
theorem dX9_ask_30 : decode cX9_ask 30 = .ok (.iload 4, 2) := by decide +kernel
theorem dX9_ask_32 : decode cX9_ask 32 = .ok (.isub, 1) := by decide +kernel
theorem dX9_ask_33 : decode cX9_ask 33 = .ok (.ireturn, 1) := by decide +kernel
theorem dX9_ask_34 : decode cX9_ask 34 = .ok (.aload_n 0, 1) := by decide +kernel
theorem dX9_ask_35 : decode cX9_ask 35 = .ok (.getfield 198, 3) := by decide +kernel
theorem dX9_ask_38 : decode cX9_ask 38 = .ok (.istore 5, 2) := by decide +kernel
theorem dX9_ask_40 : decode cX9_ask 40 = .ok (.aload_n 0, 1) := by decide +kernel
theorem dX9_ask_41 : decode cX9_ask 41 = .ok (.getfield 45, 3) := by decide +kernel
theorem dX9_ask_44 : decode cX9_ask 44 = .ok (.iload 5, 2) := by decide +kernel
theorem dX9_ask_46 : decode cX9_ask 46 = .ok (.iload_n 1, 1) := by decide +kernel
theorem dX9_ask_47 : decode cX9_ask 47 = .ok (.iastore, 1) := by decide +kernel
theorem dX9_ask_48 : decode cX9_ask 48 = .ok (.aload_n 0, 1) := by decide +kernel
theorem dX9_ask_49 : decode cX9_ask 49 = .ok (.getfield 48, 3) := by decide +kernel
theorem dX9_ask_52 : decode cX9_ask 52 = .ok (.iload 5, 2) := by decide +kernel
theorem dX9_ask_54 : decode cX9_ask 54 = .ok (.iload_n 2, 1) := by decide +kernel
theorem dX9_ask_55 : decode cX9_ask 55 = .ok (.iastore, 1) := by decide +kernel
theorem dX9_ask_56 : decode cX9_ask 56 = .ok (.aload_n 0, 1) := by decide +kernel
theorem dX9_ask_57 : decode cX9_ask 57 = .ok (.getfield 51, 3) := by decide +kernel
theorem dX9_ask_60 : decode cX9_ask 60 = .ok (.iload 5, 2) := by decide +kernel
theorem dX9_ask_62 : decode cX9_ask 62 = .ok (.aload_n 0, 1) := by decide +kernel
theorem dX9_ask_63 : decode cX9_ask 63 = .ok (.getfield 230, 3) := by decide +kernel
theorem dX9_ask_66 : decode cX9_ask 66 = .ok (.iastore, 1) := by decide +kernel
theorem dX9_ask_67 : decode cX9_ask 67 = .ok (.aload_n 0, 1) := by decide +kernel
theorem dX9_ask_68 : decode cX9_ask 68 = .ok (.getfield 54, 3) := by decide +kernel
theorem dX9_ask_71 : decode cX9_ask 71 = .ok (.iload 5, 2) := by decide +kernel
theorem dX9_ask_73 : decode cX9_ask 73 = .ok (.aload_n 0, 1) := by decide +kernel
theorem dX9_ask_74 : decode cX9_ask 74 = .ok (.getfield 13, 3) := by decide +kernel
theorem dX9_ask_77 : decode cX9_ask 77 = .ok (.iconst 1, 1) := by decide +kernel
theorem dX9_ask_78 : decode cX9_ask 78 = .ok (.iaload, 1) := by decide +kernel
theorem dX9_ask_79 : decode cX9_ask 79 = .ok (.iastore, 1) := by decide +kernel
theorem dX9_ask_80 : decode cX9_ask 80 = .ok (.aload_n 0, 1) := by decide +kernel
theorem dX9_ask_81 : decode cX9_ask 81 = .ok (.getfield 57, 3) := by decide +kernel
theorem dX9_ask_84 : decode cX9_ask 84 = .ok (.iload 5, 2) := by decide +kernel
theorem dX9_ask_86 : decode cX9_ask 86 = .ok (.aload_n 0, 1) := by decide +kernel
theorem dX9_ask_87 : decode cX9_ask 87 = .ok (.getfield 13, 3) := by decide +kernel
theorem dX9_ask_90 : decode cX9_ask 90 = .ok (.iconst 4, 1) := by decide +kernel
theorem dX9_ask_91 : decode cX9_ask 91 = .ok (.iaload, 1) := by decide +kernel
theorem dX9_ask_92 : decode cX9_ask 92 = .ok (.iastore, 1) := by decide +kernel
theorem dX9_ask_93 : decode cX9_ask 93 = .ok (.aload_n 0, 1) := by decide +kernel
theorem dX9_ask_94 : decode cX9_ask 94 = .ok (.getfield 60, 3) := by decide +kernel
theorem dX9_ask_97 : decode cX9_ask 97 = .ok (.iload 5, 2) := by decide +kernel
theorem dX9_ask_99 : decode cX9_ask 99 = .ok (.aload_n 0, 1) := by decide +kernel
theorem dX9_ask_100 : decode cX9_ask 100 = .ok (.getfield 13, 3) := by decide +kernel
theorem dX9_ask_103 : decode cX9_ask 103 = .ok (.iconst 5, 1) := by decide +kernel
theorem dX9_ask_104 : decode cX9_ask 104 = .ok (.iaload, 1) := by decide +kernel
theorem dX9_ask_105 : decode cX9_ask 105 = .ok (.iastore, 1) := by decide +kernel
theorem dX9_ask_106 : decode cX9_ask 106 = .ok (.aload_n 0, 1) := by decide +kernel
theorem dX9_ask_107 : decode cX9_ask 107 = .ok (.getfield 84, 3) := by decide +kernel
theorem dX9_ask_110 : decode cX9_ask 110 = .ok (.iload 5, 2) := by decide +kernel
theorem dX9_ask_112 : decode cX9_ask 112 = .ok (.iload_n 3, 1) := by decide +kernel
theorem dX9_ask_113 : decode cX9_ask 113 = .ok (.iastore, 1) := by decide +kernel
theorem dX9_ask_114 : decode cX9_ask 114 = .ok (.iconst 0, 1) := by decide +kernel
theorem dX9_ask_115 : decode cX9_ask 115 = .ok (.istore 6, 2) := by decide +kernel
theorem dX9_ask_117 : decode cX9_ask 117 = .ok (.iload 6, 2) := by decide +kernel
theorem dX9_ask_119 : decode cX9_ask 119 = .ok (.iload_n 3, 1) := by decide +kernel
theorem dX9_ask_120 : decode cX9_ask 120 = .ok (.if_icmp .ge 28, 3) := by decide +kernel
theorem dX9_ask_123 : decode cX9_ask 123 = .ok (.aload_n 0, 1) := by decide +kernel
theorem dX9_ask_124 : decode cX9_ask 124 = .ok (.getfield 87, 3) := by decide +kernel
theorem dX9_ask_127 : decode cX9_ask 127 = .ok (.iconst 3, 1) := by decide +kernel
theorem dX9_ask_128 : decode cX9_ask 128 = .ok (.iload 5, 2) := by decide +kernel
theorem dX9_ask_130 : decode cX9_ask 130 = .ok (.imul, 1) := by decide +kernel
theorem dX9_ask_131 : decode cX9_ask 131 = .ok (.iload 6, 2) := by decide +kernel
theorem dX9_ask_133 : decode cX9_ask 133 = .ok (.iadd, 1) := by decide +kernel
theorem dX9_ask_134 : decode cX9_ask 134 = .ok (.aload_n 0, 1) := by decide +kernel
theorem dX9_ask_135 : decode cX9_ask 135 = .ok (.getfield 7, 3) := by decide +kernel
theorem dX9_ask_138 : decode cX9_ask 138 = .ok (.iload 6, 2) := by decide +kernel
theorem dX9_ask_140 : decode cX9_ask 140 = .ok (.iaload, 1) := by decide +kernel
theorem dX9_ask_141 : decode cX9_ask 141 = .ok (.iastore, 1) := by decide +kernel
theorem dX9_ask_142 : decode cX9_ask 142 = .ok (.iinc 6 1, 3) := by decide +kernel
theorem dX9_ask_145 : decode cX9_ask 145 = .ok (.goto (-28), 3) := by decide +kernel
theorem dX9_ask_148 : decode cX9_ask 148 = .ok (.iload_n 2, 1) := by decide +kernel
theorem dX9_ask_149 : decode cX9_ask 149 = .ok (.istore 6, 2) := by decide +kernel
theorem dX9_ask_151 : decode cX9_ask 151 = .ok (.iconst 1, 1) := by decide +kernel
theorem dX9_ask_152 : decode cX9_ask 152 = .ok (.istore 7, 2) := by decide +kernel
theorem dX9_ask_154 : decode cX9_ask 154 = .ok (.iload 7, 2) := by decide +kernel
theorem dX9_ask_156 : decode cX9_ask 156 = .ok (.aload_n 0, 1) := by decide +kernel
theorem dX9_ask_157 : decode cX9_ask 157 = .ok (.getfield 41, 3) := by decide +kernel
theorem dX9_ask_160 : decode cX9_ask 160 = .ok (.if_icmp .ge 91, 3) := by decide +kernel
theorem dX9_ask_163 : decode cX9_ask 163 = .ok (.aload_n 0, 1) := by decide +kernel
theorem dX9_ask_164 : decode cX9_ask 164 = .ok (.getfield 29, 3) := by decide +kernel
theorem dX9_ask_167 : decode cX9_ask 167 = .ok (.iload_n 1, 1) := by decide +kernel
theorem dX9_ask_168 : decode cX9_ask 168 = .ok (.iaload, 1) := by decide +kernel
theorem dX9_ask_169 : decode cX9_ask 169 = .ok (.aload_n 0, 1) := by decide +kernel
theorem dX9_ask_170 : decode cX9_ask 170 = .ok (.getfield 32, 3) := by decide +kernel
theorem dX9_ask_173 : decode cX9_ask 173 = .ok (.iload 7, 2) := by decide +kernel
theorem dX9_ask_175 : decode cX9_ask 175 = .ok (.iaload, 1) := by decide +kernel
theorem dX9_ask_176 : decode cX9_ask 176 = .ok (.ishr, 1) := by decide +kernel
theorem dX9_ask_177 : decode cX9_ask 177 = .ok (.iconst 1, 1) := by decide +kernel
theorem dX9_ask_178 : decode cX9_ask 178 = .ok (.iand, 1) := by decide +kernel
theorem dX9_ask_179 : decode cX9_ask 179 = .ok (.ifCond .ne 6, 3) := by decide +kernel
theorem dX9_ask_182 : decode cX9_ask 182 = .ok (.goto 63, 3) := by decide +kernel
theorem dX9_ask_185 : decode cX9_ask 185 = .ok (.iload 6, 2) := by decide +kernel
theorem dX9_ask_187 : decode cX9_ask 187 = .ok (.aload_n 0, 1) := by decide +kernel
theorem dX9_ask_188 : decode cX9_ask 188 = .ok (.getfield 35, 3) := by decide +kernel
theorem dX9_ask_191 : decode cX9_ask 191 = .ok (.iload 7, 2) := by decide +kernel
theorem dX9_ask_193 : decode cX9_ask 193 = .ok (.iaload, 1) := by decide +kernel
theorem dX9_ask_194 : decode cX9_ask 194 = .ok (.if_icmp .ge 8, 3) := by decide +kernel
theorem dX9_ask_197 : decode cX9_ask 197 = .ok (.iload 6, 2) := by decide +kernel
theorem dX9_ask_199 : decode cX9_ask 199 = .ok (.goto 10, 3) := by decide +kernel
theorem dX9_ask_202 : decode cX9_ask 202 = .ok (.aload_n 0, 1) := by decide +kernel
theorem dX9_ask_203 : decode cX9_ask 203 = .ok (.getfield 35, 3) := by decide +kernel
theorem dX9_ask_206 : decode cX9_ask 206 = .ok (.iload 7, 2) := by decide +kernel
theorem dX9_ask_208 : decode cX9_ask 208 = .ok (.iaload, 1) := by decide +kernel
theorem dX9_ask_209 : decode cX9_ask 209 = .ok (.istore 8, 2) := by decide +kernel
theorem dX9_ask_211 : decode cX9_ask 211 = .ok (.aload_n 0, 1) := by decide +kernel
theorem dX9_ask_212 : decode cX9_ask 212 = .ok (.getfield 90, 3) := by decide +kernel
theorem dX9_ask_215 : decode cX9_ask 215 = .ok (.bipush 6, 2) := by decide +kernel
theorem dX9_ask_217 : decode cX9_ask 217 = .ok (.iload 5, 2) := by decide +kernel
theorem dX9_ask_219 : decode cX9_ask 219 = .ok (.imul, 1) := by decide +kernel
theorem dX9_ask_220 : decode cX9_ask 220 = .ok (.iload 7, 2) := by decide +kernel
theorem dX9_ask_222 : decode cX9_ask 222 = .ok (.iadd, 1) := by decide +kernel
theorem dX9_ask_223 : decode cX9_ask 223 = .ok (.iload 8, 2) := by decide +kernel
theorem dX9_ask_225 : decode cX9_ask 225 = .ok (.iastore, 1) := by decide +kernel
theorem dX9_ask_226 : decode cX9_ask 226 = .ok (.aload_n 0, 1) := by decide +kernel
theorem dX9_ask_227 : decode cX9_ask 227 = .ok (.getfield 35, 3) := by decide +kernel
theorem dX9_ask_230 : decode cX9_ask 230 = .ok (.iload 7, 2) := by decide +kernel
theorem dX9_ask_232 : decode cX9_ask 232 = .ok (.dup2, 1) := by decide +kernel
theorem dX9_ask_233 : decode cX9_ask 233 = .ok (.iaload, 1) := by decide +kernel
theorem dX9_ask_234 : decode cX9_ask 234 = .ok (.iload 8, 2) := by decide +kernel
theorem dX9_ask_236 : decode cX9_ask 236 = .ok (.isub, 1) := by decide +kernel
theorem dX9_ask_237 : decode cX9_ask 237 = .ok (.iastore, 1) := by decide +kernel
theorem dX9_ask_238 : decode cX9_ask 238 = .ok (.iload 6, 2) := by decide +kernel
theorem dX9_ask_240 : decode cX9_ask 240 = .ok (.iload 8, 2) := by decide +kernel
theorem dX9_ask_242 : decode cX9_ask 242 = .ok (.isub, 1) := by decide +kernel
theorem dX9_ask_243 : decode cX9_ask 243 = .ok (.istore 6, 2) := by decide +kernel
theorem dX9_ask_245 : decode cX9_ask 245 = .ok (.iinc 7 1, 3) := by decide +kernel
theorem dX9_ask_248 : decode cX9_ask 248 = .ok (.goto (-94), 3) := by decide +kernel
theorem dX9_ask_251 : decode cX9_ask 251 = .ok (.aload_n 0, 1) := by decide +kernel
theorem dX9_ask_252 : decode cX9_ask 252 = .ok (.getfield 90, 3) := by decide +kernel
theorem dX9_ask_255 : decode cX9_ask 255 = .ok (.bipush 6, 2) := by decide +kernel
theorem dX9_ask_257 : decode cX9_ask 257 = .ok (.iload 5, 2) := by decide +kernel
theorem dX9_ask_259 : decode cX9_ask 259 = .ok (.imul, 1) := by decide +kernel
theorem dX9_ask_260 : decode cX9_ask 260 = .ok (.iload 6, 2) := by decide +kernel
theorem dX9_ask_262 : decode cX9_ask 262 = .ok (.iastore, 1) := by decide +kernel
theorem dX9_ask_263 : decode cX9_ask 263 = .ok (.aload_n 0, 1) := by decide +kernel
theorem dX9_ask_264 : decode cX9_ask 264 = .ok (.getfield 35, 3) := by decide +kernel
theorem dX9_ask_267 : decode cX9_ask 267 = .ok (.iconst 0, 1) := by decide +kernel
theorem dX9_ask_268 : decode cX9_ask 268 = .ok (.dup2, 1) := by decide +kernel
theorem dX9_ask_269 : decode cX9_ask 269 = .ok (.iaload, 1) := by decide +kernel
theorem dX9_ask_270 : decode cX9_ask 270 = .ok (.iload 6, 2) := by decide +kernel
theorem dX9_ask_272 : decode cX9_ask 272 = .ok (.isub, 1) := by decide +kernel
theorem dX9_ask_273 : decode cX9_ask 273 = .ok (.iastore, 1) := by decide +kernel
theorem dX9_ask_274 : decode cX9_ask 274 = .ok (.aload_n 0, 1) := by decide +kernel
theorem dX9_ask_275 : decode cX9_ask 275 = .ok (.dup, 1) := by decide +kernel
theorem dX9_ask_276 : decode cX9_ask 276 = .ok (.getfield 198, 3) := by decide +kernel
theorem dX9_ask_279 : decode cX9_ask 279 = .ok (.iconst 1, 1) := by decide +kernel
theorem dX9_ask_280 : decode cX9_ask 280 = .ok (.iadd, 1) := by decide +kernel
theorem dX9_ask_281 : decode cX9_ask 281 = .ok (.putfield 198, 3) := by decide +kernel
theorem dX9_ask_284 : decode cX9_ask 284 = .ok (.iload 5, 2) := by decide +kernel
theorem dX9_ask_286 : decode cX9_ask 286 = .ok (.ireturn, 1) := by decide +kernel
theorem dX9_comesBack_0 : decode cX9_comesBack 0 = .ok (.aload_n 0, 1) := by decide +kernel
theorem dX9_comesBack_1 : decode cX9_comesBack 1 = .ok (.getfield 81, 3) := by decide +kernel
theorem dX9_comesBack_4 : decode cX9_comesBack 4 = .ok (.iload_n 1, 1) := by decide +kernel
theorem dX9_comesBack_5 : decode cX9_comesBack 5 = .ok (.iaload, 1) := by decide +kernel
theorem dX9_comesBack_6 : decode cX9_comesBack 6 = .ok (.istore_n 3, 1) := by decide +kernel
theorem dX9_comesBack_7 : decode cX9_comesBack 7 = .ok (.iload_n 3, 1) := by decide +kernel
theorem dX9_comesBack_8 : decode cX9_comesBack 8 = .ok (.iload_n 2, 1) := by decide +kernel
theorem dX9_comesBack_9 : decode cX9_comesBack 9 = .ok (.iadd, 1) := by decide +kernel
theorem dX9_comesBack_10 : decode cX9_comesBack 10 = .ok (.istore 4, 2) := by decide +kernel
theorem dX9_comesBack_12 : decode cX9_comesBack 12 = .ok (.aload_n 0, 1) := by decide +kernel
theorem dX9_comesBack_13 : decode cX9_comesBack 13 = .ok (.getfield 81, 3) := by decide +kernel
theorem dX9_comesBack_16 : decode cX9_comesBack 16 = .ok (.iload_n 1, 1) := by decide +kernel
theorem dX9_comesBack_17 : decode cX9_comesBack 17 = .ok (.iload 4, 2) := by decide +kernel
theorem dX9_comesBack_19 : decode cX9_comesBack 19 = .ok (.iastore, 1) := by decide +kernel
theorem dX9_comesBack_20 : decode cX9_comesBack 20 = .ok (.iconst 0, 1) := by decide +kernel
theorem dX9_comesBack_21 : decode cX9_comesBack 21 = .ok (.istore 5, 2) := by decide +kernel
theorem dX9_comesBack_23 : decode cX9_comesBack 23 = .ok (.iconst 0, 1) := by decide +kernel
theorem dX9_comesBack_24 : decode cX9_comesBack 24 = .ok (.istore 6, 2) := by decide +kernel
theorem dX9_comesBack_26 : decode cX9_comesBack 26 = .ok (.iload 6, 2) := by decide +kernel
theorem dX9_comesBack_28 : decode cX9_comesBack 28 = .ok (.bipush 6, 2) := by decide +kernel
theorem dX9_comesBack_30 : decode cX9_comesBack 30 = .ok (.if_icmp .ge 104, 3) := by decide +kernel
theorem dX9_comesBack_33 : decode cX9_comesBack 33 = .ok (.iload 6, 2) := by decide +kernel
theorem dX9_comesBack_35 : decode cX9_comesBack 35 = .ok (.ifCond .ne 7, 3) := by decide +kernel
theorem dX9_comesBack_38 : decode cX9_comesBack 38 = .ok (.iconst 0, 1) := by decide +kernel
theorem dX9_comesBack_39 : decode cX9_comesBack 39 = .ok (.goto 8, 3) := by decide +kernel
theorem dX9_comesBack_42 : decode cX9_comesBack 42 = .ok (.bipush 6, 2) := by decide +kernel
theorem dX9_comesBack_44 : decode cX9_comesBack 44 = .ok (.iload 6, 2) := by decide +kernel
theorem dX9_comesBack_46 : decode cX9_comesBack 46 = .ok (.isub, 1) := by decide +kernel
theorem dX9_comesBack_47 : decode cX9_comesBack 47 = .ok (.istore 7, 2) := by decide +kernel
theorem dX9_comesBack_49 : decode cX9_comesBack 49 = .ok (.aload_n 0, 1) := by decide +kernel
theorem dX9_comesBack_50 : decode cX9_comesBack 50 = .ok (.getfield 90, 3) := by decide +kernel
theorem dX9_comesBack_53 : decode cX9_comesBack 53 = .ok (.bipush 6, 2) := by decide +kernel
theorem dX9_comesBack_55 : decode cX9_comesBack 55 = .ok (.iload_n 1, 1) := by decide +kernel
theorem dX9_comesBack_56 : decode cX9_comesBack 56 = .ok (.imul, 1) := by decide +kernel
theorem dX9_comesBack_57 : decode cX9_comesBack 57 = .ok (.iload 7, 2) := by decide +kernel
theorem dX9_comesBack_59 : decode cX9_comesBack 59 = .ok (.iadd, 1) := by decide +kernel
theorem dX9_comesBack_60 : decode cX9_comesBack 60 = .ok (.iaload, 1) := by decide +kernel
theorem dX9_comesBack_61 : decode cX9_comesBack 61 = .ok (.istore 8, 2) := by decide +kernel
theorem dX9_comesBack_63 : decode cX9_comesBack 63 = .ok (.iload_n 3, 1) := by decide +kernel
theorem dX9_comesBack_64 : decode cX9_comesBack 64 = .ok (.iload 5, 2) := by decide +kernel
theorem dX9_comesBack_66 : decode cX9_comesBack 66 = .ok (.if_icmp .le 7, 3) := by decide +kernel
theorem dX9_comesBack_69 : decode cX9_comesBack 69 = .ok (.iload_n 3, 1) := by decide +kernel
theorem dX9_comesBack_70 : decode cX9_comesBack 70 = .ok (.goto 5, 3) := by decide +kernel
theorem dX9_comesBack_73 : decode cX9_comesBack 73 = .ok (.iload 5, 2) := by decide +kernel
theorem dX9_comesBack_75 : decode cX9_comesBack 75 = .ok (.istore 9, 2) := by decide +kernel
theorem dX9_comesBack_77 : decode cX9_comesBack 77 = .ok (.iload 4, 2) := by decide +kernel
theorem dX9_comesBack_79 : decode cX9_comesBack 79 = .ok (.iload 5, 2) := by decide +kernel
theorem dX9_comesBack_81 : decode cX9_comesBack 81 = .ok (.iload 8, 2) := by decide +kernel
theorem dX9_comesBack_83 : decode cX9_comesBack 83 = .ok (.iadd, 1) := by decide +kernel
theorem dX9_comesBack_84 : decode cX9_comesBack 84 = .ok (.if_icmp .ge 8, 3) := by decide +kernel
theorem dX9_comesBack_87 : decode cX9_comesBack 87 = .ok (.iload 4, 2) := by decide +kernel
theorem dX9_comesBack_89 : decode cX9_comesBack 89 = .ok (.goto 8, 3) := by decide +kernel
theorem dX9_comesBack_92 : decode cX9_comesBack 92 = .ok (.iload 5, 2) := by decide +kernel
theorem dX9_comesBack_94 : decode cX9_comesBack 94 = .ok (.iload 8, 2) := by decide +kernel
theorem dX9_comesBack_96 : decode cX9_comesBack 96 = .ok (.iadd, 1) := by decide +kernel
theorem dX9_comesBack_97 : decode cX9_comesBack 97 = .ok (.istore 10, 2) := by decide +kernel
theorem dX9_comesBack_99 : decode cX9_comesBack 99 = .ok (.iload 10, 2) := by decide +kernel
theorem dX9_comesBack_101 : decode cX9_comesBack 101 = .ok (.iload 9, 2) := by decide +kernel
theorem dX9_comesBack_103 : decode cX9_comesBack 103 = .ok (.if_icmp .le 18, 3) := by decide +kernel
theorem dX9_comesBack_106 : decode cX9_comesBack 106 = .ok (.aload_n 0, 1) := by decide +kernel
theorem dX9_comesBack_107 : decode cX9_comesBack 107 = .ok (.getfield 35, 3) := by decide +kernel
theorem dX9_comesBack_110 : decode cX9_comesBack 110 = .ok (.iload 7, 2) := by decide +kernel
theorem dX9_comesBack_112 : decode cX9_comesBack 112 = .ok (.dup2, 1) := by decide +kernel
theorem dX9_comesBack_113 : decode cX9_comesBack 113 = .ok (.iaload, 1) := by decide +kernel
theorem dX9_comesBack_114 : decode cX9_comesBack 114 = .ok (.iload 10, 2) := by decide +kernel
theorem dX9_comesBack_116 : decode cX9_comesBack 116 = .ok (.iload 9, 2) := by decide +kernel
theorem dX9_comesBack_118 : decode cX9_comesBack 118 = .ok (.isub, 1) := by decide +kernel
theorem dX9_comesBack_119 : decode cX9_comesBack 119 = .ok (.iadd, 1) := by decide +kernel
theorem dX9_comesBack_120 : decode cX9_comesBack 120 = .ok (.iastore, 1) := by decide +kernel
theorem dX9_comesBack_121 : decode cX9_comesBack 121 = .ok (.iload 5, 2) := by decide +kernel
theorem dX9_comesBack_123 : decode cX9_comesBack 123 = .ok (.iload 8, 2) := by decide +kernel
theorem dX9_comesBack_125 : decode cX9_comesBack 125 = .ok (.iadd, 1) := by decide +kernel
theorem dX9_comesBack_126 : decode cX9_comesBack 126 = .ok (.istore 5, 2) := by decide +kernel
theorem dX9_comesBack_128 : decode cX9_comesBack 128 = .ok (.iinc 6 1, 3) := by decide +kernel
theorem dX9_comesBack_131 : decode cX9_comesBack 131 = .ok (.goto (-105), 3) := by decide +kernel
theorem dX9_comesBack_134 : decode cX9_comesBack 134 = .ok (.return_, 1) := by decide +kernel
theorem dX9_callsOf_0 : decode cX9_callsOf 0 = .ok (.iconst 0, 1) := by decide +kernel
theorem dX9_callsOf_1 : decode cX9_callsOf 1 = .ok (.istore_n 2, 1) := by decide +kernel
theorem dX9_callsOf_2 : decode cX9_callsOf 2 = .ok (.iconst 0, 1) := by decide +kernel
theorem dX9_callsOf_3 : decode cX9_callsOf 3 = .ok (.istore_n 3, 1) := by decide +kernel
theorem dX9_callsOf_4 : decode cX9_callsOf 4 = .ok (.iload_n 3, 1) := by decide +kernel
theorem dX9_callsOf_5 : decode cX9_callsOf 5 = .ok (.aload_n 0, 1) := by decide +kernel
theorem dX9_callsOf_6 : decode cX9_callsOf 6 = .ok (.getfield 201, 3) := by decide +kernel
theorem dX9_callsOf_9 : decode cX9_callsOf 9 = .ok (.if_icmp .ge 28, 3) := by decide +kernel
theorem dX9_callsOf_12 : decode cX9_callsOf 12 = .ok (.aload_n 0, 1) := by decide +kernel
theorem dX9_callsOf_13 : decode cX9_callsOf 13 = .ok (.getfield 93, 3) := by decide +kernel
theorem dX9_callsOf_16 : decode cX9_callsOf 16 = .ok (.iload_n 3, 1) := by decide +kernel
theorem dX9_callsOf_17 : decode cX9_callsOf 17 = .ok (.iaload, 1) := by decide +kernel
theorem dX9_callsOf_18 : decode cX9_callsOf 18 = .ok (.iload_n 1, 1) := by decide +kernel
theorem dX9_callsOf_19 : decode cX9_callsOf 19 = .ok (.if_icmp .ne 12, 3) := by decide +kernel
theorem dX9_callsOf_22 : decode cX9_callsOf 22 = .ok (.iload_n 2, 1) := by decide +kernel
theorem dX9_callsOf_23 : decode cX9_callsOf 23 = .ok (.aload_n 0, 1) := by decide +kernel
theorem dX9_callsOf_24 : decode cX9_callsOf 24 = .ok (.getfield 99, 3) := by decide +kernel
theorem dX9_callsOf_27 : decode cX9_callsOf 27 = .ok (.iload_n 3, 1) := by decide +kernel
theorem dX9_callsOf_28 : decode cX9_callsOf 28 = .ok (.iaload, 1) := by decide +kernel
theorem dX9_callsOf_29 : decode cX9_callsOf 29 = .ok (.iadd, 1) := by decide +kernel
theorem dX9_callsOf_30 : decode cX9_callsOf 30 = .ok (.istore_n 2, 1) := by decide +kernel
theorem dX9_callsOf_31 : decode cX9_callsOf 31 = .ok (.iinc 3 1, 3) := by decide +kernel
theorem dX9_callsOf_34 : decode cX9_callsOf 34 = .ok (.goto (-30), 3) := by decide +kernel
theorem dX9_callsOf_37 : decode cX9_callsOf 37 = .ok (.iload_n 2, 1) := by decide +kernel
theorem dX9_callsOf_38 : decode cX9_callsOf 38 = .ok (.ireturn, 1) := by decide +kernel
theorem dX9_owed_0 : decode cX9_owed 0 = .ok (.aload_n 0, 1) := by decide +kernel
theorem dX9_owed_1 : decode cX9_owed 1 = .ok (.iload_n 1, 1) := by decide +kernel
theorem dX9_owed_2 : decode cX9_owed 2 = .ok (.invokevirtual 207, 3) := by decide +kernel
theorem dX9_owed_5 : decode cX9_owed 5 = .ok (.istore_n 2, 1) := by decide +kernel
theorem dX9_owed_6 : decode cX9_owed 6 = .ok (.aload_n 0, 1) := by decide +kernel
theorem dX9_owed_7 : decode cX9_owed 7 = .ok (.iload_n 1, 1) := by decide +kernel
theorem dX9_owed_8 : decode cX9_owed 8 = .ok (.invokevirtual 233, 3) := by decide +kernel
theorem dX9_owed_11 : decode cX9_owed 11 = .ok (.iload_n 2, 1) := by decide +kernel
theorem dX9_owed_12 : decode cX9_owed 12 = .ok (.iconst (-1), 1) := by decide +kernel
theorem dX9_owed_13 : decode cX9_owed 13 = .ok (.if_icmp .ne 7, 3) := by decide +kernel
theorem dX9_owed_16 : decode cX9_owed 16 = .ok (.iconst 0, 1) := by decide +kernel
theorem dX9_owed_17 : decode cX9_owed 17 = .ok (.goto 30, 3) := by decide +kernel
theorem dX9_owed_20 : decode cX9_owed 20 = .ok (.aload_n 0, 1) := by decide +kernel
theorem dX9_owed_21 : decode cX9_owed 21 = .ok (.getfield 66, 3) := by decide +kernel
theorem dX9_owed_24 : decode cX9_owed 24 = .ok (.iload_n 2, 1) := by decide +kernel
theorem dX9_owed_25 : decode cX9_owed 25 = .ok (.iaload, 1) := by decide +kernel
theorem dX9_owed_26 : decode cX9_owed 26 = .ok (.aload_n 0, 1) := by decide +kernel
theorem dX9_owed_27 : decode cX9_owed 27 = .ok (.getfield 69, 3) := by decide +kernel
theorem dX9_owed_30 : decode cX9_owed 30 = .ok (.iload_n 2, 1) := by decide +kernel
theorem dX9_owed_31 : decode cX9_owed 31 = .ok (.iaload, 1) := by decide +kernel
theorem dX9_owed_32 : decode cX9_owed 32 = .ok (.isub, 1) := by decide +kernel
theorem dX9_owed_33 : decode cX9_owed 33 = .ok (.aload_n 0, 1) := by decide +kernel
theorem dX9_owed_34 : decode cX9_owed 34 = .ok (.getfield 48, 3) := by decide +kernel
theorem dX9_owed_37 : decode cX9_owed 37 = .ok (.iload_n 2, 1) := by decide +kernel
theorem dX9_owed_38 : decode cX9_owed 38 = .ok (.iaload, 1) := by decide +kernel
theorem dX9_owed_39 : decode cX9_owed 39 = .ok (.iadd, 1) := by decide +kernel
theorem dX9_owed_40 : decode cX9_owed 40 = .ok (.aload_n 0, 1) := by decide +kernel
theorem dX9_owed_41 : decode cX9_owed 41 = .ok (.getfield 63, 3) := by decide +kernel
theorem dX9_owed_44 : decode cX9_owed 44 = .ok (.iload_n 2, 1) := by decide +kernel
theorem dX9_owed_45 : decode cX9_owed 45 = .ok (.iaload, 1) := by decide +kernel
theorem dX9_owed_46 : decode cX9_owed 46 = .ok (.isub, 1) := by decide +kernel
theorem dX9_owed_47 : decode cX9_owed 47 = .ok (.iadd, 1) := by decide +kernel
theorem dX9_owed_48 : decode cX9_owed 48 = .ok (.ireturn, 1) := by decide +kernel
theorem dX9_owes_0 : decode cX9_owes 0 = .ok (.aload_n 0, 1) := by decide +kernel
theorem dX9_owes_1 : decode cX9_owes 1 = .ok (.iconst 0, 1) := by decide +kernel
theorem dX9_owes_2 : decode cX9_owes 2 = .ok (.putfield 105, 3) := by decide +kernel
theorem dX9_owes_5 : decode cX9_owes 5 = .ok (.aload_n 0, 1) := by decide +kernel
theorem dX9_owes_6 : decode cX9_owes 6 = .ok (.iload_n 1, 1) := by decide +kernel
theorem dX9_owes_7 : decode cX9_owes 7 = .ok (.invokevirtual 187, 3) := by decide +kernel
theorem dX9_owes_10 : decode cX9_owes 10 = .ok (.ifCond .eq 11, 3) := by decide +kernel
theorem dX9_owes_13 : decode cX9_owes 13 = .ok (.aload_n 0, 1) := by decide +kernel
theorem dX9_owes_14 : decode cX9_owes 14 = .ok (.iload_n 1, 1) := by decide +kernel
theorem dX9_owes_15 : decode cX9_owes 15 = .ok (.invokevirtual 236, 3) := by decide +kernel
theorem dX9_owes_18 : decode cX9_owes 18 = .ok (.goto 4, 3) := by decide +kernel
theorem dX9_owes_21 : decode cX9_owes 21 = .ok (.iconst (-1), 1) := by decide +kernel
theorem dX9_owes_22 : decode cX9_owes 22 = .ok (.ireturn, 1) := by decide +kernel
theorem dX9_pay_0 : decode cX9_pay 0 = .ok (.aload_n 0, 1) := by decide +kernel
theorem dX9_pay_1 : decode cX9_pay 1 = .ok (.iconst 0, 1) := by decide +kernel
theorem dX9_pay_2 : decode cX9_pay 2 = .ok (.putfield 105, 3) := by decide +kernel
theorem dX9_pay_5 : decode cX9_pay 5 = .ok (.aload_n 0, 1) := by decide +kernel
theorem dX9_pay_6 : decode cX9_pay 6 = .ok (.iload_n 1, 1) := by decide +kernel
theorem dX9_pay_7 : decode cX9_pay 7 = .ok (.invokevirtual 187, 3) := by decide +kernel
theorem dX9_pay_10 : decode cX9_pay 10 = .ok (.ifCond .eq 17, 3) := by decide +kernel
theorem dX9_pay_13 : decode cX9_pay 13 = .ok (.iload_n 2, 1) := by decide +kernel
theorem dX9_pay_14 : decode cX9_pay 14 = .ok (.iconst 1, 1) := by decide +kernel
theorem dX9_pay_15 : decode cX9_pay 15 = .ok (.if_icmp .lt 12, 3) := by decide +kernel
theorem dX9_pay_18 : decode cX9_pay 18 = .ok (.iload_n 2, 1) := by decide +kernel
theorem dX9_pay_19 : decode cX9_pay 19 = .ok (.aload_n 0, 1) := by decide +kernel
theorem dX9_pay_20 : decode cX9_pay 20 = .ok (.iload_n 1, 1) := by decide +kernel
theorem dX9_pay_21 : decode cX9_pay 21 = .ok (.invokevirtual 236, 3) := by decide +kernel
theorem dX9_pay_24 : decode cX9_pay 24 = .ok (.if_icmp .le 5, 3) := by decide +kernel
theorem dX9_pay_27 : decode cX9_pay 27 = .ok (.iconst 0, 1) := by decide +kernel
theorem dX9_pay_28 : decode cX9_pay 28 = .ok (.ireturn, 1) := by decide +kernel
theorem dX9_pay_29 : decode cX9_pay 29 = .ok (.iload_n 2, 1) := by decide +kernel
theorem dX9_pay_30 : decode cX9_pay 30 = .ok (.istore_n 3, 1) := by decide +kernel
theorem dX9_pay_31 : decode cX9_pay 31 = .ok (.iconst 0, 1) := by decide +kernel
theorem dX9_pay_32 : decode cX9_pay 32 = .ok (.istore 4, 2) := by decide +kernel
theorem dX9_pay_34 : decode cX9_pay 34 = .ok (.iload 4, 2) := by decide +kernel
theorem dX9_pay_36 : decode cX9_pay 36 = .ok (.aload_n 0, 1) := by decide +kernel
theorem dX9_pay_37 : decode cX9_pay 37 = .ok (.getfield 201, 3) := by decide +kernel
theorem dX9_pay_40 : decode cX9_pay 40 = .ok (.if_icmp .ge 141, 3) := by decide +kernel
theorem dX9_pay_43 : decode cX9_pay 43 = .ok (.iload_n 3, 1) := by decide +kernel
theorem dX9_pay_44 : decode cX9_pay 44 = .ok (.ifCond .le 137, 3) := by decide +kernel
theorem dX9_pay_47 : decode cX9_pay 47 = .ok (.aload_n 0, 1) := by decide +kernel
theorem dX9_pay_48 : decode cX9_pay 48 = .ok (.getfield 93, 3) := by decide +kernel
theorem dX9_pay_51 : decode cX9_pay 51 = .ok (.iload 4, 2) := by decide +kernel
theorem dX9_pay_53 : decode cX9_pay 53 = .ok (.iaload, 1) := by decide +kernel
theorem dX9_pay_54 : decode cX9_pay 54 = .ok (.iload_n 1, 1) := by decide +kernel
theorem dX9_pay_55 : decode cX9_pay 55 = .ok (.if_icmp .eq 6, 3) := by decide +kernel
theorem dX9_pay_58 : decode cX9_pay 58 = .ok (.goto 117, 3) := by decide +kernel
theorem dX9_pay_61 : decode cX9_pay 61 = .ok (.iload_n 3, 1) := by decide +kernel
theorem dX9_pay_62 : decode cX9_pay 62 = .ok (.aload_n 0, 1) := by decide +kernel
theorem dX9_pay_63 : decode cX9_pay 63 = .ok (.getfield 99, 3) := by decide +kernel
theorem dX9_pay_66 : decode cX9_pay 66 = .ok (.iload 4, 2) := by decide +kernel
theorem dX9_pay_68 : decode cX9_pay 68 = .ok (.iaload, 1) := by decide +kernel
theorem dX9_pay_69 : decode cX9_pay 69 = .ok (.if_icmp .ge 7, 3) := by decide +kernel
theorem dX9_pay_72 : decode cX9_pay 72 = .ok (.iload_n 3, 1) := by decide +kernel
theorem dX9_pay_73 : decode cX9_pay 73 = .ok (.goto 10, 3) := by decide +kernel
theorem dX9_pay_76 : decode cX9_pay 76 = .ok (.aload_n 0, 1) := by decide +kernel
theorem dX9_pay_77 : decode cX9_pay 77 = .ok (.getfield 99, 3) := by decide +kernel
theorem dX9_pay_80 : decode cX9_pay 80 = .ok (.iload 4, 2) := by decide +kernel
theorem dX9_pay_82 : decode cX9_pay 82 = .ok (.iaload, 1) := by decide +kernel
theorem dX9_pay_83 : decode cX9_pay 83 = .ok (.istore 5, 2) := by decide +kernel
theorem dX9_pay_85 : decode cX9_pay 85 = .ok (.aload_n 0, 1) := by decide +kernel
theorem dX9_pay_86 : decode cX9_pay 86 = .ok (.getfield 99, 3) := by decide +kernel
theorem dX9_pay_89 : decode cX9_pay 89 = .ok (.iload 4, 2) := by decide +kernel
theorem dX9_pay_91 : decode cX9_pay 91 = .ok (.dup2, 1) := by decide +kernel
theorem dX9_pay_92 : decode cX9_pay 92 = .ok (.iaload, 1) := by decide +kernel
theorem dX9_pay_93 : decode cX9_pay 93 = .ok (.iload 5, 2) := by decide +kernel
theorem dX9_pay_95 : decode cX9_pay 95 = .ok (.isub, 1) := by decide +kernel
theorem dX9_pay_96 : decode cX9_pay 96 = .ok (.iastore, 1) := by decide +kernel
theorem dX9_pay_97 : decode cX9_pay 97 = .ok (.iload_n 3, 1) := by decide +kernel
theorem dX9_pay_98 : decode cX9_pay 98 = .ok (.iload 5, 2) := by decide +kernel
theorem dX9_pay_100 : decode cX9_pay 100 = .ok (.isub, 1) := by decide +kernel
theorem dX9_pay_101 : decode cX9_pay 101 = .ok (.istore_n 3, 1) := by decide +kernel
theorem dX9_pay_102 : decode cX9_pay 102 = .ok (.aload_n 0, 1) := by decide +kernel
theorem dX9_pay_103 : decode cX9_pay 103 = .ok (.getfield 96, 3) := by decide +kernel
theorem dX9_pay_106 : decode cX9_pay 106 = .ok (.iload 4, 2) := by decide +kernel
theorem dX9_pay_108 : decode cX9_pay 108 = .ok (.iaload, 1) := by decide +kernel
theorem dX9_pay_109 : decode cX9_pay 109 = .ok (.istore 6, 2) := by decide +kernel
theorem dX9_pay_111 : decode cX9_pay 111 = .ok (.aload_n 0, 1) := by decide +kernel
theorem dX9_pay_112 : decode cX9_pay 112 = .ok (.getfield 48, 3) := by decide +kernel
theorem dX9_pay_115 : decode cX9_pay 115 = .ok (.iload 6, 2) := by decide +kernel
theorem dX9_pay_117 : decode cX9_pay 117 = .ok (.iaload, 1) := by decide +kernel
theorem dX9_pay_118 : decode cX9_pay 118 = .ok (.aload_n 0, 1) := by decide +kernel
theorem dX9_pay_119 : decode cX9_pay 119 = .ok (.getfield 81, 3) := by decide +kernel
theorem dX9_pay_122 : decode cX9_pay 122 = .ok (.iload 6, 2) := by decide +kernel
theorem dX9_pay_124 : decode cX9_pay 124 = .ok (.iaload, 1) := by decide +kernel
theorem dX9_pay_125 : decode cX9_pay 125 = .ok (.isub, 1) := by decide +kernel
theorem dX9_pay_126 : decode cX9_pay 126 = .ok (.iload 5, 2) := by decide +kernel
theorem dX9_pay_128 : decode cX9_pay 128 = .ok (.if_icmp .ge 21, 3) := by decide +kernel
theorem dX9_pay_131 : decode cX9_pay 131 = .ok (.aload_n 0, 1) := by decide +kernel
theorem dX9_pay_132 : decode cX9_pay 132 = .ok (.getfield 48, 3) := by decide +kernel
theorem dX9_pay_135 : decode cX9_pay 135 = .ok (.iload 6, 2) := by decide +kernel
theorem dX9_pay_137 : decode cX9_pay 137 = .ok (.iaload, 1) := by decide +kernel
theorem dX9_pay_138 : decode cX9_pay 138 = .ok (.aload_n 0, 1) := by decide +kernel
theorem dX9_pay_139 : decode cX9_pay 139 = .ok (.getfield 81, 3) := by decide +kernel
theorem dX9_pay_142 : decode cX9_pay 142 = .ok (.iload 6, 2) := by decide +kernel
theorem dX9_pay_144 : decode cX9_pay 144 = .ok (.iaload, 1) := by decide +kernel
theorem dX9_pay_145 : decode cX9_pay 145 = .ok (.isub, 1) := by decide +kernel
theorem dX9_pay_146 : decode cX9_pay 146 = .ok (.goto 5, 3) := by decide +kernel
theorem dX9_pay_149 : decode cX9_pay 149 = .ok (.iload 5, 2) := by decide +kernel
theorem dX9_pay_151 : decode cX9_pay 151 = .ok (.istore 7, 2) := by decide +kernel
theorem dX9_pay_153 : decode cX9_pay 153 = .ok (.aload_n 0, 1) := by decide +kernel
theorem dX9_pay_154 : decode cX9_pay 154 = .ok (.iload 6, 2) := by decide +kernel
theorem dX9_pay_156 : decode cX9_pay 156 = .ok (.iload 7, 2) := by decide +kernel
theorem dX9_pay_158 : decode cX9_pay 158 = .ok (.invokevirtual 239, 3) := by decide +kernel
theorem dX9_pay_161 : decode cX9_pay 161 = .ok (.aload_n 0, 1) := by decide +kernel
theorem dX9_pay_162 : decode cX9_pay 162 = .ok (.getfield 35, 3) := by decide +kernel
theorem dX9_pay_165 : decode cX9_pay 165 = .ok (.iconst 0, 1) := by decide +kernel
theorem dX9_pay_166 : decode cX9_pay 166 = .ok (.dup2, 1) := by decide +kernel
theorem dX9_pay_167 : decode cX9_pay 167 = .ok (.iaload, 1) := by decide +kernel
theorem dX9_pay_168 : decode cX9_pay 168 = .ok (.iload 5, 2) := by decide +kernel
theorem dX9_pay_170 : decode cX9_pay 170 = .ok (.iload 7, 2) := by decide +kernel
theorem dX9_pay_172 : decode cX9_pay 172 = .ok (.isub, 1) := by decide +kernel
theorem dX9_pay_173 : decode cX9_pay 173 = .ok (.iadd, 1) := by decide +kernel
theorem dX9_pay_174 : decode cX9_pay 174 = .ok (.iastore, 1) := by decide +kernel
theorem dX9_pay_175 : decode cX9_pay 175 = .ok (.iinc 4 1, 3) := by decide +kernel
theorem dX9_pay_178 : decode cX9_pay 178 = .ok (.goto (-144), 3) := by decide +kernel
theorem dX9_pay_181 : decode cX9_pay 181 = .ok (.aload_n 0, 1) := by decide +kernel
theorem dX9_pay_182 : decode cX9_pay 182 = .ok (.iload_n 1, 1) := by decide +kernel
theorem dX9_pay_183 : decode cX9_pay 183 = .ok (.invokevirtual 207, 3) := by decide +kernel
theorem dX9_pay_186 : decode cX9_pay 186 = .ok (.istore 4, 2) := by decide +kernel
theorem dX9_pay_188 : decode cX9_pay 188 = .ok (.iload 4, 2) := by decide +kernel
theorem dX9_pay_190 : decode cX9_pay 190 = .ok (.iconst (-1), 1) := by decide +kernel
theorem dX9_pay_191 : decode cX9_pay 191 = .ok (.if_icmp .ne 5, 3) := by decide +kernel
theorem dX9_pay_194 : decode cX9_pay 194 = .ok (.iconst 1, 1) := by decide +kernel
theorem dX9_pay_195 : decode cX9_pay 195 = .ok (.ireturn, 1) := by decide +kernel
theorem dX9_pay_196 : decode cX9_pay 196 = .ok (.iload_n 3, 1) := by decide +kernel
theorem dX9_pay_197 : decode cX9_pay 197 = .ok (.aload_n 0, 1) := by decide +kernel
theorem dX9_pay_198 : decode cX9_pay 198 = .ok (.getfield 66, 3) := by decide +kernel
theorem dX9_pay_201 : decode cX9_pay 201 = .ok (.iload 4, 2) := by decide +kernel
theorem dX9_pay_203 : decode cX9_pay 203 = .ok (.iaload, 1) := by decide +kernel
theorem dX9_pay_204 : decode cX9_pay 204 = .ok (.aload_n 0, 1) := by decide +kernel
theorem dX9_pay_205 : decode cX9_pay 205 = .ok (.getfield 69, 3) := by decide +kernel
theorem dX9_pay_208 : decode cX9_pay 208 = .ok (.iload 4, 2) := by decide +kernel
theorem dX9_pay_210 : decode cX9_pay 210 = .ok (.iaload, 1) := by decide +kernel
theorem dX9_pay_211 : decode cX9_pay 211 = .ok (.isub, 1) := by decide +kernel
theorem dX9_pay_212 : decode cX9_pay 212 = .ok (.if_icmp .ge 7, 3) := by decide +kernel
theorem dX9_pay_215 : decode cX9_pay 215 = .ok (.iload_n 3, 1) := by decide +kernel
theorem dX9_pay_216 : decode cX9_pay 216 = .ok (.goto 18, 3) := by decide +kernel
theorem dX9_pay_219 : decode cX9_pay 219 = .ok (.aload_n 0, 1) := by decide +kernel
theorem dX9_pay_220 : decode cX9_pay 220 = .ok (.getfield 66, 3) := by decide +kernel
theorem dX9_pay_223 : decode cX9_pay 223 = .ok (.iload 4, 2) := by decide +kernel
theorem dX9_pay_225 : decode cX9_pay 225 = .ok (.iaload, 1) := by decide +kernel
theorem dX9_pay_226 : decode cX9_pay 226 = .ok (.aload_n 0, 1) := by decide +kernel
theorem dX9_pay_227 : decode cX9_pay 227 = .ok (.getfield 69, 3) := by decide +kernel
theorem dX9_pay_230 : decode cX9_pay 230 = .ok (.iload 4, 2) := by decide +kernel
theorem dX9_pay_232 : decode cX9_pay 232 = .ok (.iaload, 1) := by decide +kernel
theorem dX9_pay_233 : decode cX9_pay 233 = .ok (.isub, 1) := by decide +kernel
theorem dX9_pay_234 : decode cX9_pay 234 = .ok (.istore 5, 2) := by decide +kernel
theorem dX9_pay_236 : decode cX9_pay 236 = .ok (.aload_n 0, 1) := by decide +kernel
theorem dX9_pay_237 : decode cX9_pay 237 = .ok (.getfield 69, 3) := by decide +kernel
theorem dX9_pay_240 : decode cX9_pay 240 = .ok (.iload 4, 2) := by decide +kernel
theorem dX9_pay_242 : decode cX9_pay 242 = .ok (.dup2, 1) := by decide +kernel
theorem dX9_pay_243 : decode cX9_pay 243 = .ok (.iaload, 1) := by decide +kernel
theorem dX9_pay_244 : decode cX9_pay 244 = .ok (.iload 5, 2) := by decide +kernel
theorem dX9_pay_246 : decode cX9_pay 246 = .ok (.iadd, 1) := by decide +kernel
theorem dX9_pay_247 : decode cX9_pay 247 = .ok (.iastore, 1) := by decide +kernel
theorem dX9_pay_248 : decode cX9_pay 248 = .ok (.aload_n 0, 1) := by decide +kernel
theorem dX9_pay_249 : decode cX9_pay 249 = .ok (.getfield 35, 3) := by decide +kernel
theorem dX9_pay_252 : decode cX9_pay 252 = .ok (.iconst 0, 1) := by decide +kernel
theorem dX9_pay_253 : decode cX9_pay 253 = .ok (.dup2, 1) := by decide +kernel
theorem dX9_pay_254 : decode cX9_pay 254 = .ok (.iaload, 1) := by decide +kernel
theorem dX9_pay_255 : decode cX9_pay 255 = .ok (.iload 5, 2) := by decide +kernel
theorem dX9_pay_257 : decode cX9_pay 257 = .ok (.iadd, 1) := by decide +kernel
theorem dX9_pay_258 : decode cX9_pay 258 = .ok (.iastore, 1) := by decide +kernel
theorem dX9_pay_259 : decode cX9_pay 259 = .ok (.iload_n 3, 1) := by decide +kernel
theorem dX9_pay_260 : decode cX9_pay 260 = .ok (.iload 5, 2) := by decide +kernel
theorem dX9_pay_262 : decode cX9_pay 262 = .ok (.isub, 1) := by decide +kernel
theorem dX9_pay_263 : decode cX9_pay 263 = .ok (.istore_n 3, 1) := by decide +kernel
theorem dX9_pay_264 : decode cX9_pay 264 = .ok (.aload_n 0, 1) := by decide +kernel
theorem dX9_pay_265 : decode cX9_pay 265 = .ok (.getfield 63, 3) := by decide +kernel
theorem dX9_pay_268 : decode cX9_pay 268 = .ok (.iload 4, 2) := by decide +kernel
theorem dX9_pay_270 : decode cX9_pay 270 = .ok (.dup2, 1) := by decide +kernel
theorem dX9_pay_271 : decode cX9_pay 271 = .ok (.iaload, 1) := by decide +kernel
theorem dX9_pay_272 : decode cX9_pay 272 = .ok (.iload_n 3, 1) := by decide +kernel
theorem dX9_pay_273 : decode cX9_pay 273 = .ok (.iadd, 1) := by decide +kernel
theorem dX9_pay_274 : decode cX9_pay 274 = .ok (.iastore, 1) := by decide +kernel
theorem dX9_pay_275 : decode cX9_pay 275 = .ok (.aload_n 0, 1) := by decide +kernel
theorem dX9_pay_276 : decode cX9_pay 276 = .ok (.iload 4, 2) := by decide +kernel
theorem dX9_pay_278 : decode cX9_pay 278 = .ok (.iload_n 3, 1) := by decide +kernel
theorem dX9_pay_279 : decode cX9_pay 279 = .ok (.invokevirtual 239, 3) := by decide +kernel
theorem dX9_pay_282 : decode cX9_pay 282 = .ok (.aload_n 0, 1) := by decide +kernel
theorem dX9_pay_283 : decode cX9_pay 283 = .ok (.getfield 63, 3) := by decide +kernel
theorem dX9_pay_286 : decode cX9_pay 286 = .ok (.iload 4, 2) := by decide +kernel
theorem dX9_pay_288 : decode cX9_pay 288 = .ok (.iaload, 1) := by decide +kernel
theorem dX9_pay_289 : decode cX9_pay 289 = .ok (.aload_n 0, 1) := by decide +kernel
theorem dX9_pay_290 : decode cX9_pay 290 = .ok (.getfield 48, 3) := by decide +kernel
theorem dX9_pay_293 : decode cX9_pay 293 = .ok (.iload 4, 2) := by decide +kernel
theorem dX9_pay_295 : decode cX9_pay 295 = .ok (.iaload, 1) := by decide +kernel
theorem dX9_pay_296 : decode cX9_pay 296 = .ok (.if_icmp .ne 28, 3) := by decide +kernel
theorem dX9_pay_299 : decode cX9_pay 299 = .ok (.aload_n 0, 1) := by decide +kernel
theorem dX9_pay_300 : decode cX9_pay 300 = .ok (.getfield 69, 3) := by decide +kernel
theorem dX9_pay_303 : decode cX9_pay 303 = .ok (.iload 4, 2) := by decide +kernel
theorem dX9_pay_305 : decode cX9_pay 305 = .ok (.iaload, 1) := by decide +kernel
theorem dX9_pay_306 : decode cX9_pay 306 = .ok (.aload_n 0, 1) := by decide +kernel
theorem dX9_pay_307 : decode cX9_pay 307 = .ok (.getfield 66, 3) := by decide +kernel
theorem dX9_pay_310 : decode cX9_pay 310 = .ok (.iload 4, 2) := by decide +kernel
theorem dX9_pay_312 : decode cX9_pay 312 = .ok (.iaload, 1) := by decide +kernel
theorem dX9_pay_313 : decode cX9_pay 313 = .ok (.if_icmp .ne 11, 3) := by decide +kernel
theorem dX9_pay_316 : decode cX9_pay 316 = .ok (.aload_n 0, 1) := by decide +kernel
theorem dX9_pay_317 : decode cX9_pay 317 = .ok (.getfield 78, 3) := by decide +kernel
theorem dX9_pay_320 : decode cX9_pay 320 = .ok (.iload 4, 2) := by decide +kernel
theorem dX9_pay_322 : decode cX9_pay 322 = .ok (.iconst 1, 1) := by decide +kernel
theorem dX9_pay_323 : decode cX9_pay 323 = .ok (.iastore, 1) := by decide +kernel
theorem dX9_pay_324 : decode cX9_pay 324 = .ok (.iconst 1, 1) := by decide +kernel
theorem dX9_pay_325 : decode cX9_pay 325 = .ok (.ireturn, 1) := by decide +kernel
theorem dX9_isLate_0 : decode cX9_isLate 0 = .ok (.aload_n 0, 1) := by decide +kernel
theorem dX9_isLate_1 : decode cX9_isLate 1 = .ok (.getfield 72, 3) := by decide +kernel
theorem dX9_isLate_4 : decode cX9_isLate 4 = .ok (.iload_n 1, 1) := by decide +kernel
theorem dX9_isLate_5 : decode cX9_isLate 5 = .ok (.dup2, 1) := by decide +kernel
theorem dX9_isLate_6 : decode cX9_isLate 6 = .ok (.iaload, 1) := by decide +kernel
theorem dX9_isLate_7 : decode cX9_isLate 7 = .ok (.iconst 1, 1) := by decide +kernel
theorem dX9_isLate_8 : decode cX9_isLate 8 = .ok (.iadd, 1) := by decide +kernel
theorem dX9_isLate_9 : decode cX9_isLate 9 = .ok (.iastore, 1) := by decide +kernel
theorem dX9_isLate_10 : decode cX9_isLate 10 = .ok (.aload_n 0, 1) := by decide +kernel
theorem dX9_isLate_11 : decode cX9_isLate 11 = .ok (.getfield 75, 3) := by decide +kernel
theorem dX9_isLate_14 : decode cX9_isLate 14 = .ok (.iload_n 1, 1) := by decide +kernel
theorem dX9_isLate_15 : decode cX9_isLate 15 = .ok (.dup2, 1) := by decide +kernel
theorem dX9_isLate_16 : decode cX9_isLate 16 = .ok (.iaload, 1) := by decide +kernel
theorem dX9_isLate_17 : decode cX9_isLate 17 = .ok (.iconst 1, 1) := by decide +kernel
theorem dX9_isLate_18 : decode cX9_isLate 18 = .ok (.iadd, 1) := by decide +kernel
theorem dX9_isLate_19 : decode cX9_isLate 19 = .ok (.iastore, 1) := by decide +kernel
theorem dX9_isLate_20 : decode cX9_isLate 20 = .ok (.aload_n 0, 1) := by decide +kernel
theorem dX9_isLate_21 : decode cX9_isLate 21 = .ok (.getfield 66, 3) := by decide +kernel
theorem dX9_isLate_24 : decode cX9_isLate 24 = .ok (.iload_n 1, 1) := by decide +kernel
theorem dX9_isLate_25 : decode cX9_isLate 25 = .ok (.dup2, 1) := by decide +kernel
theorem dX9_isLate_26 : decode cX9_isLate 26 = .ok (.iaload, 1) := by decide +kernel
theorem dX9_isLate_27 : decode cX9_isLate 27 = .ok (.aload_n 0, 1) := by decide +kernel
theorem dX9_isLate_28 : decode cX9_isLate 28 = .ok (.getfield 57, 3) := by decide +kernel
theorem dX9_isLate_31 : decode cX9_isLate 31 = .ok (.iload_n 1, 1) := by decide +kernel
theorem dX9_isLate_32 : decode cX9_isLate 32 = .ok (.iaload, 1) := by decide +kernel
theorem dX9_isLate_33 : decode cX9_isLate 33 = .ok (.iadd, 1) := by decide +kernel
theorem dX9_isLate_34 : decode cX9_isLate 34 = .ok (.iastore, 1) := by decide +kernel
theorem dX9_isLate_35 : decode cX9_isLate 35 = .ok (.aload_n 0, 1) := by decide +kernel
theorem dX9_isLate_36 : decode cX9_isLate 36 = .ok (.getfield 75, 3) := by decide +kernel
theorem dX9_isLate_39 : decode cX9_isLate 39 = .ok (.iload_n 1, 1) := by decide +kernel
theorem dX9_isLate_40 : decode cX9_isLate 40 = .ok (.iaload, 1) := by decide +kernel
theorem dX9_isLate_41 : decode cX9_isLate 41 = .ok (.aload_n 0, 1) := by decide +kernel
theorem dX9_isLate_42 : decode cX9_isLate 42 = .ok (.getfield 60, 3) := by decide +kernel
theorem dX9_isLate_45 : decode cX9_isLate 45 = .ok (.iload_n 1, 1) := by decide +kernel
theorem dX9_isLate_46 : decode cX9_isLate 46 = .ok (.iaload, 1) := by decide +kernel
theorem dX9_isLate_47 : decode cX9_isLate 47 = .ok (.if_icmp .ge 4, 3) := by decide +kernel
theorem dX9_isLate_50 : decode cX9_isLate 50 = .ok (.return_, 1) := by decide +kernel
theorem dX9_isLate_51 : decode cX9_isLate 51 = .ok (.aload_n 0, 1) := by decide +kernel
theorem dX9_isLate_52 : decode cX9_isLate 52 = .ok (.getfield 78, 3) := by decide +kernel
theorem dX9_isLate_55 : decode cX9_isLate 55 = .ok (.iload_n 1, 1) := by decide +kernel
theorem dX9_isLate_56 : decode cX9_isLate 56 = .ok (.iconst 2, 1) := by decide +kernel
theorem dX9_isLate_57 : decode cX9_isLate 57 = .ok (.iastore, 1) := by decide +kernel
theorem dX9_isLate_58 : decode cX9_isLate 58 = .ok (.aload_n 0, 1) := by decide +kernel
theorem dX9_isLate_59 : decode cX9_isLate 59 = .ok (.getfield 48, 3) := by decide +kernel
theorem dX9_isLate_62 : decode cX9_isLate 62 = .ok (.iload_n 1, 1) := by decide +kernel
theorem dX9_isLate_63 : decode cX9_isLate 63 = .ok (.iaload, 1) := by decide +kernel
theorem dX9_isLate_64 : decode cX9_isLate 64 = .ok (.aload_n 0, 1) := by decide +kernel
theorem dX9_isLate_65 : decode cX9_isLate 65 = .ok (.getfield 63, 3) := by decide +kernel
theorem dX9_isLate_68 : decode cX9_isLate 68 = .ok (.iload_n 1, 1) := by decide +kernel
theorem dX9_isLate_69 : decode cX9_isLate 69 = .ok (.iaload, 1) := by decide +kernel
theorem dX9_isLate_70 : decode cX9_isLate 70 = .ok (.isub, 1) := by decide +kernel
theorem dX9_isLate_71 : decode cX9_isLate 71 = .ok (.aload_n 0, 1) := by decide +kernel
theorem dX9_isLate_72 : decode cX9_isLate 72 = .ok (.getfield 66, 3) := by decide +kernel
theorem dX9_isLate_75 : decode cX9_isLate 75 = .ok (.iload_n 1, 1) := by decide +kernel
theorem dX9_isLate_76 : decode cX9_isLate 76 = .ok (.iaload, 1) := by decide +kernel
theorem dX9_isLate_77 : decode cX9_isLate 77 = .ok (.iadd, 1) := by decide +kernel
theorem dX9_isLate_78 : decode cX9_isLate 78 = .ok (.aload_n 0, 1) := by decide +kernel
theorem dX9_isLate_79 : decode cX9_isLate 79 = .ok (.getfield 69, 3) := by decide +kernel
theorem dX9_isLate_82 : decode cX9_isLate 82 = .ok (.iload_n 1, 1) := by decide +kernel
theorem dX9_isLate_83 : decode cX9_isLate 83 = .ok (.iaload, 1) := by decide +kernel
theorem dX9_isLate_84 : decode cX9_isLate 84 = .ok (.isub, 1) := by decide +kernel
theorem dX9_isLate_85 : decode cX9_isLate 85 = .ok (.istore_n 2, 1) := by decide +kernel
theorem dX9_isLate_86 : decode cX9_isLate 86 = .ok (.aload_n 0, 1) := by decide +kernel
theorem dX9_isLate_87 : decode cX9_isLate 87 = .ok (.getfield 84, 3) := by decide +kernel
theorem dX9_isLate_90 : decode cX9_isLate 90 = .ok (.iload_n 1, 1) := by decide +kernel
theorem dX9_isLate_91 : decode cX9_isLate 91 = .ok (.iaload, 1) := by decide +kernel
theorem dX9_isLate_92 : decode cX9_isLate 92 = .ok (.ifCond .ne 13, 3) := by decide +kernel
theorem dX9_isLate_95 : decode cX9_isLate 95 = .ok (.aload_n 0, 1) := by decide +kernel
theorem dX9_isLate_96 : decode cX9_isLate 96 = .ok (.dup, 1) := by decide +kernel
theorem dX9_isLate_97 : decode cX9_isLate 97 = .ok (.getfield 243, 3) := by decide +kernel
theorem dX9_isLate_100 : decode cX9_isLate 100 = .ok (.iload_n 2, 1) := by decide +kernel
theorem dX9_isLate_101 : decode cX9_isLate 101 = .ok (.iadd, 1) := by decide +kernel
theorem dX9_isLate_102 : decode cX9_isLate 102 = .ok (.putfield 243, 3) := by decide +kernel
theorem dX9_isLate_105 : decode cX9_isLate 105 = .ok (.iconst 0, 1) := by decide +kernel
theorem dX9_isLate_106 : decode cX9_isLate 106 = .ok (.istore_n 3, 1) := by decide +kernel
theorem dX9_isLate_107 : decode cX9_isLate 107 = .ok (.iload_n 3, 1) := by decide +kernel
theorem dX9_isLate_108 : decode cX9_isLate 108 = .ok (.aload_n 0, 1) := by decide +kernel
theorem dX9_isLate_109 : decode cX9_isLate 109 = .ok (.getfield 84, 3) := by decide +kernel
theorem dX9_isLate_112 : decode cX9_isLate 112 = .ok (.iload_n 1, 1) := by decide +kernel
theorem dX9_isLate_113 : decode cX9_isLate 113 = .ok (.iaload, 1) := by decide +kernel
theorem dX9_isLate_114 : decode cX9_isLate 114 = .ok (.if_icmp .ge 95, 3) := by decide +kernel
theorem dX9_isLate_117 : decode cX9_isLate 117 = .ok (.iload_n 2, 1) := by decide +kernel
theorem dX9_isLate_118 : decode cX9_isLate 118 = .ok (.aload_n 0, 1) := by decide +kernel
theorem dX9_isLate_119 : decode cX9_isLate 119 = .ok (.getfield 84, 3) := by decide +kernel
theorem dX9_isLate_122 : decode cX9_isLate 122 = .ok (.iload_n 1, 1) := by decide +kernel
theorem dX9_isLate_123 : decode cX9_isLate 123 = .ok (.iaload, 1) := by decide +kernel
theorem dX9_isLate_124 : decode cX9_isLate 124 = .ok (.idiv, 1) := by decide +kernel
theorem dX9_isLate_125 : decode cX9_isLate 125 = .ok (.iload_n 3, 1) := by decide +kernel
theorem dX9_isLate_126 : decode cX9_isLate 126 = .ok (.iload_n 2, 1) := by decide +kernel
theorem dX9_isLate_127 : decode cX9_isLate 127 = .ok (.aload_n 0, 1) := by decide +kernel
theorem dX9_isLate_128 : decode cX9_isLate 128 = .ok (.getfield 84, 3) := by decide +kernel
theorem dX9_isLate_131 : decode cX9_isLate 131 = .ok (.iload_n 1, 1) := by decide +kernel
theorem dX9_isLate_132 : decode cX9_isLate 132 = .ok (.iaload, 1) := by decide +kernel
theorem dX9_isLate_133 : decode cX9_isLate 133 = .ok (.irem, 1) := by decide +kernel
theorem dX9_isLate_134 : decode cX9_isLate 134 = .ok (.if_icmp .ge 7, 3) := by decide +kernel
theorem dX9_isLate_137 : decode cX9_isLate 137 = .ok (.iconst 1, 1) := by decide +kernel
theorem dX9_isLate_138 : decode cX9_isLate 138 = .ok (.goto 4, 3) := by decide +kernel
theorem dX9_isLate_141 : decode cX9_isLate 141 = .ok (.iconst 0, 1) := by decide +kernel
theorem dX9_isLate_142 : decode cX9_isLate 142 = .ok (.iadd, 1) := by decide +kernel
theorem dX9_isLate_143 : decode cX9_isLate 143 = .ok (.istore 4, 2) := by decide +kernel
theorem dX9_isLate_145 : decode cX9_isLate 145 = .ok (.iload 4, 2) := by decide +kernel
theorem dX9_isLate_147 : decode cX9_isLate 147 = .ok (.ifCond .ne 6, 3) := by decide +kernel
theorem dX9_isLate_150 : decode cX9_isLate 150 = .ok (.goto 53, 3) := by decide +kernel
theorem dX9_isLate_153 : decode cX9_isLate 153 = .ok (.aload_n 0, 1) := by decide +kernel
theorem dX9_isLate_154 : decode cX9_isLate 154 = .ok (.getfield 93, 3) := by decide +kernel
theorem dX9_isLate_157 : decode cX9_isLate 157 = .ok (.aload_n 0, 1) := by decide +kernel
theorem dX9_isLate_158 : decode cX9_isLate 158 = .ok (.getfield 201, 3) := by decide +kernel
theorem dX9_isLate_161 : decode cX9_isLate 161 = .ok (.aload_n 0, 1) := by decide +kernel
theorem dX9_isLate_162 : decode cX9_isLate 162 = .ok (.getfield 87, 3) := by decide +kernel
theorem dX9_isLate_165 : decode cX9_isLate 165 = .ok (.iconst 3, 1) := by decide +kernel
theorem dX9_isLate_166 : decode cX9_isLate 166 = .ok (.iload_n 1, 1) := by decide +kernel
theorem dX9_isLate_167 : decode cX9_isLate 167 = .ok (.imul, 1) := by decide +kernel
theorem dX9_isLate_168 : decode cX9_isLate 168 = .ok (.iload_n 3, 1) := by decide +kernel
theorem dX9_isLate_169 : decode cX9_isLate 169 = .ok (.iadd, 1) := by decide +kernel
theorem dX9_isLate_170 : decode cX9_isLate 170 = .ok (.iaload, 1) := by decide +kernel
theorem dX9_isLate_171 : decode cX9_isLate 171 = .ok (.iastore, 1) := by decide +kernel
theorem dX9_isLate_172 : decode cX9_isLate 172 = .ok (.aload_n 0, 1) := by decide +kernel
theorem dX9_isLate_173 : decode cX9_isLate 173 = .ok (.getfield 96, 3) := by decide +kernel
theorem dX9_isLate_176 : decode cX9_isLate 176 = .ok (.aload_n 0, 1) := by decide +kernel
theorem dX9_isLate_177 : decode cX9_isLate 177 = .ok (.getfield 201, 3) := by decide +kernel
theorem dX9_isLate_180 : decode cX9_isLate 180 = .ok (.iload_n 1, 1) := by decide +kernel
theorem dX9_isLate_181 : decode cX9_isLate 181 = .ok (.iastore, 1) := by decide +kernel
theorem dX9_isLate_182 : decode cX9_isLate 182 = .ok (.aload_n 0, 1) := by decide +kernel
theorem dX9_isLate_183 : decode cX9_isLate 183 = .ok (.getfield 99, 3) := by decide +kernel
theorem dX9_isLate_186 : decode cX9_isLate 186 = .ok (.aload_n 0, 1) := by decide +kernel
theorem dX9_isLate_187 : decode cX9_isLate 187 = .ok (.getfield 201, 3) := by decide +kernel
theorem dX9_isLate_190 : decode cX9_isLate 190 = .ok (.iload 4, 2) := by decide +kernel
theorem dX9_isLate_192 : decode cX9_isLate 192 = .ok (.iastore, 1) := by decide +kernel
theorem dX9_isLate_193 : decode cX9_isLate 193 = .ok (.aload_n 0, 1) := by decide +kernel
theorem dX9_isLate_194 : decode cX9_isLate 194 = .ok (.dup, 1) := by decide +kernel
theorem dX9_isLate_195 : decode cX9_isLate 195 = .ok (.getfield 201, 3) := by decide +kernel
theorem dX9_isLate_198 : decode cX9_isLate 198 = .ok (.iconst 1, 1) := by decide +kernel
theorem dX9_isLate_199 : decode cX9_isLate 199 = .ok (.iadd, 1) := by decide +kernel
theorem dX9_isLate_200 : decode cX9_isLate 200 = .ok (.putfield 201, 3) := by decide +kernel
theorem dX9_isLate_203 : decode cX9_isLate 203 = .ok (.iinc 3 1, 3) := by decide +kernel
theorem dX9_isLate_206 : decode cX9_isLate 206 = .ok (.goto (-99), 3) := by decide +kernel
theorem dX9_isLate_209 : decode cX9_isLate 209 = .ok (.return_, 1) := by decide +kernel
theorem dX9_next_0 : decode cX9_next 0 = .ok (.aload_n 0, 1) := by decide +kernel
theorem dX9_next_1 : decode cX9_next 1 = .ok (.iconst 0, 1) := by decide +kernel
theorem dX9_next_2 : decode cX9_next 2 = .ok (.putfield 105, 3) := by decide +kernel
theorem dX9_next_5 : decode cX9_next 5 = .ok (.aload_n 0, 1) := by decide +kernel
theorem dX9_next_6 : decode cX9_next 6 = .ok (.getfield 230, 3) := by decide +kernel
theorem dX9_next_9 : decode cX9_next 9 = .ok (.sipush 400, 3) := by decide +kernel
theorem dX9_next_12 : decode cX9_next 12 = .ok (.if_icmp .ne 5, 3) := by decide +kernel
theorem dX9_next_15 : decode cX9_next 15 = .ok (.iconst (-1), 1) := by decide +kernel
theorem dX9_next_16 : decode cX9_next 16 = .ok (.ireturn, 1) := by decide +kernel
theorem dX9_next_17 : decode cX9_next 17 = .ok (.iconst 0, 1) := by decide +kernel
theorem dX9_next_18 : decode cX9_next 18 = .ok (.istore_n 1, 1) := by decide +kernel
theorem dX9_next_19 : decode cX9_next 19 = .ok (.iload_n 1, 1) := by decide +kernel
theorem dX9_next_20 : decode cX9_next 20 = .ok (.aload_n 0, 1) := by decide +kernel
theorem dX9_next_21 : decode cX9_next 21 = .ok (.getfield 198, 3) := by decide +kernel
theorem dX9_next_24 : decode cX9_next 24 = .ok (.if_icmp .ge 125, 3) := by decide +kernel
theorem dX9_next_27 : decode cX9_next 27 = .ok (.aload_n 0, 1) := by decide +kernel
theorem dX9_next_28 : decode cX9_next 28 = .ok (.getfield 78, 3) := by decide +kernel
theorem dX9_next_31 : decode cX9_next 31 = .ok (.iload_n 1, 1) := by decide +kernel
theorem dX9_next_32 : decode cX9_next 32 = .ok (.iaload, 1) := by decide +kernel
theorem dX9_next_33 : decode cX9_next 33 = .ok (.ifCond .ne 110, 3) := by decide +kernel
theorem dX9_next_36 : decode cX9_next 36 = .ok (.aload_n 0, 1) := by decide +kernel
theorem dX9_next_37 : decode cX9_next 37 = .ok (.getfield 51, 3) := by decide +kernel
theorem dX9_next_40 : decode cX9_next 40 = .ok (.iload_n 1, 1) := by decide +kernel
theorem dX9_next_41 : decode cX9_next 41 = .ok (.iaload, 1) := by decide +kernel
theorem dX9_next_42 : decode cX9_next 42 = .ok (.aload_n 0, 1) := by decide +kernel
theorem dX9_next_43 : decode cX9_next 43 = .ok (.getfield 230, 3) := by decide +kernel
theorem dX9_next_46 : decode cX9_next 46 = .ok (.if_icmp .lt 6, 3) := by decide +kernel
theorem dX9_next_49 : decode cX9_next 49 = .ok (.goto 94, 3) := by decide +kernel
theorem dX9_next_52 : decode cX9_next 52 = .ok (.aload_n 0, 1) := by decide +kernel
theorem dX9_next_53 : decode cX9_next 53 = .ok (.getfield 230, 3) := by decide +kernel
theorem dX9_next_56 : decode cX9_next 56 = .ok (.aload_n 0, 1) := by decide +kernel
theorem dX9_next_57 : decode cX9_next 57 = .ok (.getfield 51, 3) := by decide +kernel
theorem dX9_next_60 : decode cX9_next 60 = .ok (.iload_n 1, 1) := by decide +kernel
theorem dX9_next_61 : decode cX9_next 61 = .ok (.iaload, 1) := by decide +kernel
theorem dX9_next_62 : decode cX9_next 62 = .ok (.isub, 1) := by decide +kernel
theorem dX9_next_63 : decode cX9_next 63 = .ok (.aload_n 0, 1) := by decide +kernel
theorem dX9_next_64 : decode cX9_next 64 = .ok (.getfield 54, 3) := by decide +kernel
theorem dX9_next_67 : decode cX9_next 67 = .ok (.iload_n 1, 1) := by decide +kernel
theorem dX9_next_68 : decode cX9_next 68 = .ok (.iaload, 1) := by decide +kernel
theorem dX9_next_69 : decode cX9_next 69 = .ok (.if_icmp .ge 17, 3) := by decide +kernel
theorem dX9_next_72 : decode cX9_next 72 = .ok (.aload_n 0, 1) := by decide +kernel
theorem dX9_next_73 : decode cX9_next 73 = .ok (.getfield 230, 3) := by decide +kernel
theorem dX9_next_76 : decode cX9_next 76 = .ok (.aload_n 0, 1) := by decide +kernel
theorem dX9_next_77 : decode cX9_next 77 = .ok (.getfield 51, 3) := by decide +kernel
theorem dX9_next_80 : decode cX9_next 80 = .ok (.iload_n 1, 1) := by decide +kernel
theorem dX9_next_81 : decode cX9_next 81 = .ok (.iaload, 1) := by decide +kernel
theorem dX9_next_82 : decode cX9_next 82 = .ok (.isub, 1) := by decide +kernel
theorem dX9_next_83 : decode cX9_next 83 = .ok (.goto 9, 3) := by decide +kernel
theorem dX9_next_86 : decode cX9_next 86 = .ok (.aload_n 0, 1) := by decide +kernel
theorem dX9_next_87 : decode cX9_next 87 = .ok (.getfield 54, 3) := by decide +kernel
theorem dX9_next_90 : decode cX9_next 90 = .ok (.iload_n 1, 1) := by decide +kernel
theorem dX9_next_91 : decode cX9_next 91 = .ok (.iaload, 1) := by decide +kernel
theorem dX9_next_92 : decode cX9_next 92 = .ok (.istore_n 2, 1) := by decide +kernel
theorem dX9_next_93 : decode cX9_next 93 = .ok (.aload_n 0, 1) := by decide +kernel
theorem dX9_next_94 : decode cX9_next 94 = .ok (.getfield 48, 3) := by decide +kernel
theorem dX9_next_97 : decode cX9_next 97 = .ok (.iload_n 1, 1) := by decide +kernel
theorem dX9_next_98 : decode cX9_next 98 = .ok (.iaload, 1) := by decide +kernel
theorem dX9_next_99 : decode cX9_next 99 = .ok (.iload_n 2, 1) := by decide +kernel
theorem dX9_next_100 : decode cX9_next 100 = .ok (.imul, 1) := by decide +kernel
theorem dX9_next_101 : decode cX9_next 101 = .ok (.aload_n 0, 1) := by decide +kernel
theorem dX9_next_102 : decode cX9_next 102 = .ok (.getfield 54, 3) := by decide +kernel
theorem dX9_next_105 : decode cX9_next 105 = .ok (.iload_n 1, 1) := by decide +kernel
theorem dX9_next_106 : decode cX9_next 106 = .ok (.iaload, 1) := by decide +kernel
theorem dX9_next_107 : decode cX9_next 107 = .ok (.iadd, 1) := by decide +kernel
theorem dX9_next_108 : decode cX9_next 108 = .ok (.iconst 1, 1) := by decide +kernel
theorem dX9_next_109 : decode cX9_next 109 = .ok (.isub, 1) := by decide +kernel
theorem dX9_next_110 : decode cX9_next 110 = .ok (.aload_n 0, 1) := by decide +kernel
theorem dX9_next_111 : decode cX9_next 111 = .ok (.getfield 54, 3) := by decide +kernel
theorem dX9_next_114 : decode cX9_next 114 = .ok (.iload_n 1, 1) := by decide +kernel
theorem dX9_next_115 : decode cX9_next 115 = .ok (.iaload, 1) := by decide +kernel
theorem dX9_next_116 : decode cX9_next 116 = .ok (.idiv, 1) := by decide +kernel
theorem dX9_next_117 : decode cX9_next 117 = .ok (.istore_n 3, 1) := by decide +kernel
theorem dX9_next_118 : decode cX9_next 118 = .ok (.aload_n 0, 1) := by decide +kernel
theorem dX9_next_119 : decode cX9_next 119 = .ok (.getfield 63, 3) := by decide +kernel
theorem dX9_next_122 : decode cX9_next 122 = .ok (.iload_n 1, 1) := by decide +kernel
theorem dX9_next_123 : decode cX9_next 123 = .ok (.iaload, 1) := by decide +kernel
theorem dX9_next_124 : decode cX9_next 124 = .ok (.iload_n 3, 1) := by decide +kernel
theorem dX9_next_125 : decode cX9_next 125 = .ok (.if_icmp .ge 11, 3) := by decide +kernel
theorem dX9_next_128 : decode cX9_next 128 = .ok (.aload_n 0, 1) := by decide +kernel
theorem dX9_next_129 : decode cX9_next 129 = .ok (.iload_n 1, 1) := by decide +kernel
theorem dX9_next_130 : decode cX9_next 130 = .ok (.invokevirtual 246, 3) := by decide +kernel
theorem dX9_next_133 : decode cX9_next 133 = .ok (.goto 10, 3) := by decide +kernel
theorem dX9_next_136 : decode cX9_next 136 = .ok (.aload_n 0, 1) := by decide +kernel
theorem dX9_next_137 : decode cX9_next 137 = .ok (.getfield 75, 3) := by decide +kernel
theorem dX9_next_140 : decode cX9_next 140 = .ok (.iload_n 1, 1) := by decide +kernel
theorem dX9_next_141 : decode cX9_next 141 = .ok (.iconst 0, 1) := by decide +kernel
theorem dX9_next_142 : decode cX9_next 142 = .ok (.iastore, 1) := by decide +kernel
theorem dX9_next_143 : decode cX9_next 143 = .ok (.iinc 1 1, 3) := by decide +kernel
theorem dX9_next_146 : decode cX9_next 146 = .ok (.goto (-127), 3) := by decide +kernel
theorem dX9_next_149 : decode cX9_next 149 = .ok (.iconst 0, 1) := by decide +kernel
theorem dX9_next_150 : decode cX9_next 150 = .ok (.istore_n 1, 1) := by decide +kernel
theorem dX9_next_151 : decode cX9_next 151 = .ok (.iload_n 1, 1) := by decide +kernel
theorem dX9_next_152 : decode cX9_next 152 = .ok (.bipush 6, 2) := by decide +kernel
theorem dX9_next_154 : decode cX9_next 154 = .ok (.if_icmp .ge 41, 3) := by decide +kernel
theorem dX9_next_157 : decode cX9_next 157 = .ok (.aload_n 0, 1) := by decide +kernel
theorem dX9_next_158 : decode cX9_next 158 = .ok (.getfield 38, 3) := by decide +kernel
theorem dX9_next_161 : decode cX9_next 161 = .ok (.bipush 6, 2) := by decide +kernel
theorem dX9_next_163 : decode cX9_next 163 = .ok (.aload_n 0, 1) := by decide +kernel
theorem dX9_next_164 : decode cX9_next 164 = .ok (.getfield 230, 3) := by decide +kernel
theorem dX9_next_167 : decode cX9_next 167 = .ok (.imul, 1) := by decide +kernel
theorem dX9_next_168 : decode cX9_next 168 = .ok (.iload_n 1, 1) := by decide +kernel
theorem dX9_next_169 : decode cX9_next 169 = .ok (.iadd, 1) := by decide +kernel
theorem dX9_next_170 : decode cX9_next 170 = .ok (.iload_n 1, 1) := by decide +kernel
theorem dX9_next_171 : decode cX9_next 171 = .ok (.aload_n 0, 1) := by decide +kernel
theorem dX9_next_172 : decode cX9_next 172 = .ok (.getfield 41, 3) := by decide +kernel
theorem dX9_next_175 : decode cX9_next 175 = .ok (.if_icmp .ge 12, 3) := by decide +kernel
theorem dX9_next_178 : decode cX9_next 178 = .ok (.aload_n 0, 1) := by decide +kernel
theorem dX9_next_179 : decode cX9_next 179 = .ok (.getfield 35, 3) := by decide +kernel
theorem dX9_next_182 : decode cX9_next 182 = .ok (.iload_n 1, 1) := by decide +kernel
theorem dX9_next_183 : decode cX9_next 183 = .ok (.iaload, 1) := by decide +kernel
theorem dX9_next_184 : decode cX9_next 184 = .ok (.goto 4, 3) := by decide +kernel
theorem dX9_next_187 : decode cX9_next 187 = .ok (.iconst (-1), 1) := by decide +kernel
theorem dX9_next_188 : decode cX9_next 188 = .ok (.iastore, 1) := by decide +kernel
theorem dX9_next_189 : decode cX9_next 189 = .ok (.iinc 1 1, 3) := by decide +kernel
theorem dX9_next_192 : decode cX9_next 192 = .ok (.goto (-41), 3) := by decide +kernel
theorem dX9_next_195 : decode cX9_next 195 = .ok (.aload_n 0, 1) := by decide +kernel
theorem dX9_next_196 : decode cX9_next 196 = .ok (.dup, 1) := by decide +kernel
theorem dX9_next_197 : decode cX9_next 197 = .ok (.getfield 230, 3) := by decide +kernel
theorem dX9_next_200 : decode cX9_next 200 = .ok (.iconst 1, 1) := by decide +kernel
theorem dX9_next_201 : decode cX9_next 201 = .ok (.iadd, 1) := by decide +kernel
theorem dX9_next_202 : decode cX9_next 202 = .ok (.putfield 230, 3) := by decide +kernel
theorem dX9_next_205 : decode cX9_next 205 = .ok (.aload_n 0, 1) := by decide +kernel
theorem dX9_next_206 : decode cX9_next 206 = .ok (.getfield 230, 3) := by decide +kernel
theorem dX9_next_209 : decode cX9_next 209 = .ok (.ireturn, 1) := by decide +kernel
theorem dX9_chest_0 : decode cX9_chest 0 = .ok (.aload_n 0, 1) := by decide +kernel
theorem dX9_chest_1 : decode cX9_chest 1 = .ok (.iconst 0, 1) := by decide +kernel
theorem dX9_chest_2 : decode cX9_chest 2 = .ok (.putfield 105, 3) := by decide +kernel
theorem dX9_chest_5 : decode cX9_chest 5 = .ok (.aload_n 0, 1) := by decide +kernel
theorem dX9_chest_6 : decode cX9_chest 6 = .ok (.iload_n 1, 1) := by decide +kernel
theorem dX9_chest_7 : decode cX9_chest 7 = .ok (.invokevirtual 194, 3) := by decide +kernel
theorem dX9_chest_10 : decode cX9_chest 10 = .ok (.ifCond .eq 15, 3) := by decide +kernel
theorem dX9_chest_13 : decode cX9_chest 13 = .ok (.iload_n 2, 1) := by decide +kernel
theorem dX9_chest_14 : decode cX9_chest 14 = .ok (.ifCond .lt 11, 3) := by decide +kernel
theorem dX9_chest_17 : decode cX9_chest 17 = .ok (.iload_n 2, 1) := by decide +kernel
theorem dX9_chest_18 : decode cX9_chest 18 = .ok (.aload_n 0, 1) := by decide +kernel
theorem dX9_chest_19 : decode cX9_chest 19 = .ok (.getfield 230, 3) := by decide +kernel
theorem dX9_chest_22 : decode cX9_chest 22 = .ok (.if_icmp .le 5, 3) := by decide +kernel
theorem dX9_chest_25 : decode cX9_chest 25 = .ok (.iconst (-1), 1) := by decide +kernel
theorem dX9_chest_26 : decode cX9_chest 26 = .ok (.ireturn, 1) := by decide +kernel
theorem dX9_chest_27 : decode cX9_chest 27 = .ok (.iload_n 2, 1) := by decide +kernel
theorem dX9_chest_28 : decode cX9_chest 28 = .ok (.aload_n 0, 1) := by decide +kernel
theorem dX9_chest_29 : decode cX9_chest 29 = .ok (.getfield 230, 3) := by decide +kernel
theorem dX9_chest_32 : decode cX9_chest 32 = .ok (.if_icmp .ne 12, 3) := by decide +kernel
theorem dX9_chest_35 : decode cX9_chest 35 = .ok (.aload_n 0, 1) := by decide +kernel
theorem dX9_chest_36 : decode cX9_chest 36 = .ok (.getfield 35, 3) := by decide +kernel
theorem dX9_chest_39 : decode cX9_chest 39 = .ok (.iload_n 1, 1) := by decide +kernel
theorem dX9_chest_40 : decode cX9_chest 40 = .ok (.iaload, 1) := by decide +kernel
theorem dX9_chest_41 : decode cX9_chest 41 = .ok (.goto 14, 3) := by decide +kernel
theorem dX9_chest_44 : decode cX9_chest 44 = .ok (.aload_n 0, 1) := by decide +kernel
theorem dX9_chest_45 : decode cX9_chest 45 = .ok (.getfield 38, 3) := by decide +kernel
theorem dX9_chest_48 : decode cX9_chest 48 = .ok (.bipush 6, 2) := by decide +kernel
theorem dX9_chest_50 : decode cX9_chest 50 = .ok (.iload_n 2, 1) := by decide +kernel
theorem dX9_chest_51 : decode cX9_chest 51 = .ok (.imul, 1) := by decide +kernel
theorem dX9_chest_52 : decode cX9_chest 52 = .ok (.iload_n 1, 1) := by decide +kernel
theorem dX9_chest_53 : decode cX9_chest 53 = .ok (.iadd, 1) := by decide +kernel
theorem dX9_chest_54 : decode cX9_chest 54 = .ok (.iaload, 1) := by decide +kernel
theorem dX9_chest_55 : decode cX9_chest 55 = .ok (.ireturn, 1) := by decide +kernel
theorem dX9_isLoan_0 : decode cX9_isLoan 0 = .ok (.iload_n 1, 1) := by decide +kernel
theorem dX9_isLoan_1 : decode cX9_isLoan 1 = .ok (.ifCond .lt 15, 3) := by decide +kernel
theorem dX9_isLoan_4 : decode cX9_isLoan 4 = .ok (.iload_n 1, 1) := by decide +kernel
theorem dX9_isLoan_5 : decode cX9_isLoan 5 = .ok (.aload_n 0, 1) := by decide +kernel
theorem dX9_isLoan_6 : decode cX9_isLoan 6 = .ok (.getfield 198, 3) := by decide +kernel
theorem dX9_isLoan_9 : decode cX9_isLoan 9 = .ok (.if_icmp .ge 7, 3) := by decide +kernel
theorem dX9_isLoan_12 : decode cX9_isLoan 12 = .ok (.iconst 1, 1) := by decide +kernel
theorem dX9_isLoan_13 : decode cX9_isLoan 13 = .ok (.goto 4, 3) := by decide +kernel
theorem dX9_isLoan_16 : decode cX9_isLoan 16 = .ok (.iconst 0, 1) := by decide +kernel
theorem dX9_isLoan_17 : decode cX9_isLoan 17 = .ok (.ireturn, 1) := by decide +kernel
theorem dX9_loan_0 : decode cX9_loan 0 = .ok (.aload_n 0, 1) := by decide +kernel
theorem dX9_loan_1 : decode cX9_loan 1 = .ok (.iload_n 1, 1) := by decide +kernel
theorem dX9_loan_2 : decode cX9_loan 2 = .ok (.invokevirtual 249, 3) := by decide +kernel
theorem dX9_loan_5 : decode cX9_loan 5 = .ok (.ifCond .eq 13, 3) := by decide +kernel
theorem dX9_loan_8 : decode cX9_loan 8 = .ok (.iload_n 2, 1) := by decide +kernel
theorem dX9_loan_9 : decode cX9_loan 9 = .ok (.ifCond .lt 9, 3) := by decide +kernel
theorem dX9_loan_12 : decode cX9_loan 12 = .ok (.iload_n 2, 1) := by decide +kernel
theorem dX9_loan_13 : decode cX9_loan 13 = .ok (.bipush 9, 2) := by decide +kernel
theorem dX9_loan_15 : decode cX9_loan 15 = .ok (.if_icmp .le 8, 3) := by decide +kernel
theorem dX9_loan_18 : decode cX9_loan 18 = .ok (.aload_n 0, 1) := by decide +kernel
theorem dX9_loan_19 : decode cX9_loan 19 = .ok (.invokevirtual 252, 3) := by decide +kernel
theorem dX9_loan_22 : decode cX9_loan 22 = .ok (.ireturn, 1) := by decide +kernel
theorem dX9_loan_23 : decode cX9_loan 23 = .ok (.aload_n 0, 1) := by decide +kernel
theorem dX9_loan_24 : decode cX9_loan 24 = .ok (.iconst 0, 1) := by decide +kernel
theorem dX9_loan_25 : decode cX9_loan 25 = .ok (.putfield 105, 3) := by decide +kernel
theorem dX9_loan_28 : decode cX9_loan 28 = .ok (.iload_n 2, 1) := by decide +kernel
theorem dX9_loan_29 : decode cX9_loan 29 = .ok (.tableswitch 114 0 8 #[51, 58, 65, 72, 79, 86, 93, 100, 107], 51) := by decide +kernel
theorem dX9_loan_80 : decode cX9_loan 80 = .ok (.aload_n 0, 1) := by decide +kernel
theorem dX9_loan_81 : decode cX9_loan 81 = .ok (.getfield 45, 3) := by decide +kernel
theorem dX9_loan_84 : decode cX9_loan 84 = .ok (.iload_n 1, 1) := by decide +kernel
theorem dX9_loan_85 : decode cX9_loan 85 = .ok (.iaload, 1) := by decide +kernel
theorem dX9_loan_86 : decode cX9_loan 86 = .ok (.ireturn, 1) := by decide +kernel
theorem dX9_loan_87 : decode cX9_loan 87 = .ok (.aload_n 0, 1) := by decide +kernel
theorem dX9_loan_88 : decode cX9_loan 88 = .ok (.getfield 48, 3) := by decide +kernel
theorem dX9_loan_91 : decode cX9_loan 91 = .ok (.iload_n 1, 1) := by decide +kernel
theorem dX9_loan_92 : decode cX9_loan 92 = .ok (.iaload, 1) := by decide +kernel
theorem dX9_loan_93 : decode cX9_loan 93 = .ok (.ireturn, 1) := by decide +kernel
theorem dX9_loan_94 : decode cX9_loan 94 = .ok (.aload_n 0, 1) := by decide +kernel
theorem dX9_loan_95 : decode cX9_loan 95 = .ok (.getfield 51, 3) := by decide +kernel
theorem dX9_loan_98 : decode cX9_loan 98 = .ok (.iload_n 1, 1) := by decide +kernel
theorem dX9_loan_99 : decode cX9_loan 99 = .ok (.iaload, 1) := by decide +kernel
theorem dX9_loan_100 : decode cX9_loan 100 = .ok (.ireturn, 1) := by decide +kernel
theorem dX9_loan_101 : decode cX9_loan 101 = .ok (.aload_n 0, 1) := by decide +kernel
theorem dX9_loan_102 : decode cX9_loan 102 = .ok (.getfield 63, 3) := by decide +kernel
theorem dX9_loan_105 : decode cX9_loan 105 = .ok (.iload_n 1, 1) := by decide +kernel
theorem dX9_loan_106 : decode cX9_loan 106 = .ok (.iaload, 1) := by decide +kernel
theorem dX9_loan_107 : decode cX9_loan 107 = .ok (.ireturn, 1) := by decide +kernel
theorem dX9_loan_108 : decode cX9_loan 108 = .ok (.aload_n 0, 1) := by decide +kernel
theorem dX9_loan_109 : decode cX9_loan 109 = .ok (.getfield 66, 3) := by decide +kernel
theorem dX9_loan_112 : decode cX9_loan 112 = .ok (.iload_n 1, 1) := by decide +kernel
theorem dX9_loan_113 : decode cX9_loan 113 = .ok (.iaload, 1) := by decide +kernel
theorem dX9_loan_114 : decode cX9_loan 114 = .ok (.ireturn, 1) := by decide +kernel
theorem dX9_loan_115 : decode cX9_loan 115 = .ok (.aload_n 0, 1) := by decide +kernel
theorem dX9_loan_116 : decode cX9_loan 116 = .ok (.getfield 69, 3) := by decide +kernel
theorem dX9_loan_119 : decode cX9_loan 119 = .ok (.iload_n 1, 1) := by decide +kernel
theorem dX9_loan_120 : decode cX9_loan 120 = .ok (.iaload, 1) := by decide +kernel
theorem dX9_loan_121 : decode cX9_loan 121 = .ok (.ireturn, 1) := by decide +kernel
theorem dX9_loan_122 : decode cX9_loan 122 = .ok (.aload_n 0, 1) := by decide +kernel
theorem dX9_loan_123 : decode cX9_loan 123 = .ok (.getfield 72, 3) := by decide +kernel
theorem dX9_loan_126 : decode cX9_loan 126 = .ok (.iload_n 1, 1) := by decide +kernel
theorem dX9_loan_127 : decode cX9_loan 127 = .ok (.iaload, 1) := by decide +kernel
theorem dX9_loan_128 : decode cX9_loan 128 = .ok (.ireturn, 1) := by decide +kernel
theorem dX9_loan_129 : decode cX9_loan 129 = .ok (.aload_n 0, 1) := by decide +kernel
theorem dX9_loan_130 : decode cX9_loan 130 = .ok (.getfield 78, 3) := by decide +kernel
theorem dX9_loan_133 : decode cX9_loan 133 = .ok (.iload_n 1, 1) := by decide +kernel
theorem dX9_loan_134 : decode cX9_loan 134 = .ok (.iaload, 1) := by decide +kernel
theorem dX9_loan_135 : decode cX9_loan 135 = .ok (.ireturn, 1) := by decide +kernel
theorem dX9_loan_136 : decode cX9_loan 136 = .ok (.aload_n 0, 1) := by decide +kernel
theorem dX9_loan_137 : decode cX9_loan 137 = .ok (.getfield 84, 3) := by decide +kernel
theorem dX9_loan_140 : decode cX9_loan 140 = .ok (.iload_n 1, 1) := by decide +kernel
theorem dX9_loan_141 : decode cX9_loan 141 = .ok (.iaload, 1) := by decide +kernel
theorem dX9_loan_142 : decode cX9_loan 142 = .ok (.ireturn, 1) := by decide +kernel
theorem dX9_loan_143 : decode cX9_loan 143 = .ok (.aload_n 0, 1) := by decide +kernel
theorem dX9_loan_144 : decode cX9_loan 144 = .ok (.getfield 81, 3) := by decide +kernel
theorem dX9_loan_147 : decode cX9_loan 147 = .ok (.iload_n 1, 1) := by decide +kernel
theorem dX9_loan_148 : decode cX9_loan 148 = .ok (.iaload, 1) := by decide +kernel
theorem dX9_loan_149 : decode cX9_loan 149 = .ok (.ireturn, 1) := by decide +kernel
theorem dX9_surety_0 : decode cX9_surety 0 = .ok (.aload_n 0, 1) := by decide +kernel
theorem dX9_surety_1 : decode cX9_surety 1 = .ok (.iload_n 1, 1) := by decide +kernel
theorem dX9_surety_2 : decode cX9_surety 2 = .ok (.invokevirtual 249, 3) := by decide +kernel
theorem dX9_surety_5 : decode cX9_surety 5 = .ok (.ifCond .eq 17, 3) := by decide +kernel
theorem dX9_surety_8 : decode cX9_surety 8 = .ok (.iload_n 2, 1) := by decide +kernel
theorem dX9_surety_9 : decode cX9_surety 9 = .ok (.ifCond .lt 13, 3) := by decide +kernel
theorem dX9_surety_12 : decode cX9_surety 12 = .ok (.iload_n 2, 1) := by decide +kernel
theorem dX9_surety_13 : decode cX9_surety 13 = .ok (.aload_n 0, 1) := by decide +kernel
theorem dX9_surety_14 : decode cX9_surety 14 = .ok (.getfield 84, 3) := by decide +kernel
theorem dX9_surety_17 : decode cX9_surety 17 = .ok (.iload_n 1, 1) := by decide +kernel
theorem dX9_surety_18 : decode cX9_surety 18 = .ok (.iaload, 1) := by decide +kernel
theorem dX9_surety_19 : decode cX9_surety 19 = .ok (.if_icmp .lt 8, 3) := by decide +kernel
theorem dX9_surety_22 : decode cX9_surety 22 = .ok (.aload_n 0, 1) := by decide +kernel
theorem dX9_surety_23 : decode cX9_surety 23 = .ok (.invokevirtual 252, 3) := by decide +kernel
theorem dX9_surety_26 : decode cX9_surety 26 = .ok (.ireturn, 1) := by decide +kernel
theorem dX9_surety_27 : decode cX9_surety 27 = .ok (.aload_n 0, 1) := by decide +kernel
theorem dX9_surety_28 : decode cX9_surety 28 = .ok (.iconst 0, 1) := by decide +kernel
theorem dX9_surety_29 : decode cX9_surety 29 = .ok (.putfield 105, 3) := by decide +kernel
theorem dX9_surety_32 : decode cX9_surety 32 = .ok (.aload_n 0, 1) := by decide +kernel
theorem dX9_surety_33 : decode cX9_surety 33 = .ok (.getfield 87, 3) := by decide +kernel
theorem dX9_surety_36 : decode cX9_surety 36 = .ok (.iconst 3, 1) := by decide +kernel
theorem dX9_surety_37 : decode cX9_surety 37 = .ok (.iload_n 1, 1) := by decide +kernel
theorem dX9_surety_38 : decode cX9_surety 38 = .ok (.imul, 1) := by decide +kernel
theorem dX9_surety_39 : decode cX9_surety 39 = .ok (.iload_n 2, 1) := by decide +kernel
theorem dX9_surety_40 : decode cX9_surety 40 = .ok (.iadd, 1) := by decide +kernel
theorem dX9_surety_41 : decode cX9_surety 41 = .ok (.iaload, 1) := by decide +kernel
theorem dX9_surety_42 : decode cX9_surety 42 = .ok (.ireturn, 1) := by decide +kernel
theorem dX9_taken_0 : decode cX9_taken 0 = .ok (.aload_n 0, 1) := by decide +kernel
theorem dX9_taken_1 : decode cX9_taken 1 = .ok (.iload_n 1, 1) := by decide +kernel
theorem dX9_taken_2 : decode cX9_taken 2 = .ok (.invokevirtual 249, 3) := by decide +kernel
theorem dX9_taken_5 : decode cX9_taken 5 = .ok (.ifCond .eq 11, 3) := by decide +kernel
theorem dX9_taken_8 : decode cX9_taken 8 = .ok (.aload_n 0, 1) := by decide +kernel
theorem dX9_taken_9 : decode cX9_taken 9 = .ok (.iload_n 2, 1) := by decide +kernel
theorem dX9_taken_10 : decode cX9_taken 10 = .ok (.invokevirtual 194, 3) := by decide +kernel
theorem dX9_taken_13 : decode cX9_taken 13 = .ok (.ifCond .ne 8, 3) := by decide +kernel
theorem dX9_taken_16 : decode cX9_taken 16 = .ok (.aload_n 0, 1) := by decide +kernel
theorem dX9_taken_17 : decode cX9_taken 17 = .ok (.invokevirtual 252, 3) := by decide +kernel
theorem dX9_taken_20 : decode cX9_taken 20 = .ok (.ireturn, 1) := by decide +kernel
theorem dX9_taken_21 : decode cX9_taken 21 = .ok (.aload_n 0, 1) := by decide +kernel
theorem dX9_taken_22 : decode cX9_taken 22 = .ok (.iconst 0, 1) := by decide +kernel
theorem dX9_taken_23 : decode cX9_taken 23 = .ok (.putfield 105, 3) := by decide +kernel
theorem dX9_taken_26 : decode cX9_taken 26 = .ok (.aload_n 0, 1) := by decide +kernel
theorem dX9_taken_27 : decode cX9_taken 27 = .ok (.getfield 90, 3) := by decide +kernel
theorem dX9_taken_30 : decode cX9_taken 30 = .ok (.bipush 6, 2) := by decide +kernel
theorem dX9_taken_32 : decode cX9_taken 32 = .ok (.iload_n 1, 1) := by decide +kernel
theorem dX9_taken_33 : decode cX9_taken 33 = .ok (.imul, 1) := by decide +kernel
theorem dX9_taken_34 : decode cX9_taken 34 = .ok (.iload_n 2, 1) := by decide +kernel
theorem dX9_taken_35 : decode cX9_taken 35 = .ok (.iadd, 1) := by decide +kernel
theorem dX9_taken_36 : decode cX9_taken 36 = .ok (.iaload, 1) := by decide +kernel
theorem dX9_taken_37 : decode cX9_taken 37 = .ok (.ireturn, 1) := by decide +kernel
theorem dX9_character_0 : decode cX9_character 0 = .ok (.bipush 100, 2) := by decide +kernel
theorem dX9_character_2 : decode cX9_character 2 = .ok (.istore_n 2, 1) := by decide +kernel
theorem dX9_character_3 : decode cX9_character 3 = .ok (.iconst 0, 1) := by decide +kernel
theorem dX9_character_4 : decode cX9_character 4 = .ok (.istore_n 3, 1) := by decide +kernel
theorem dX9_character_5 : decode cX9_character 5 = .ok (.iload_n 3, 1) := by decide +kernel
theorem dX9_character_6 : decode cX9_character 6 = .ok (.aload_n 0, 1) := by decide +kernel
theorem dX9_character_7 : decode cX9_character 7 = .ok (.getfield 198, 3) := by decide +kernel
theorem dX9_character_10 : decode cX9_character 10 = .ok (.if_icmp .ge 74, 3) := by decide +kernel
theorem dX9_character_13 : decode cX9_character 13 = .ok (.aload_n 0, 1) := by decide +kernel
theorem dX9_character_14 : decode cX9_character 14 = .ok (.getfield 45, 3) := by decide +kernel
theorem dX9_character_17 : decode cX9_character 17 = .ok (.iload_n 3, 1) := by decide +kernel
theorem dX9_character_18 : decode cX9_character 18 = .ok (.iaload, 1) := by decide +kernel
theorem dX9_character_19 : decode cX9_character 19 = .ok (.iload_n 1, 1) := by decide +kernel
theorem dX9_character_20 : decode cX9_character 20 = .ok (.if_icmp .eq 6, 3) := by decide +kernel
theorem dX9_character_23 : decode cX9_character 23 = .ok (.goto 55, 3) := by decide +kernel
theorem dX9_character_26 : decode cX9_character 26 = .ok (.aload_n 0, 1) := by decide +kernel
theorem dX9_character_27 : decode cX9_character 27 = .ok (.getfield 78, 3) := by decide +kernel
theorem dX9_character_30 : decode cX9_character 30 = .ok (.iload_n 3, 1) := by decide +kernel
theorem dX9_character_31 : decode cX9_character 31 = .ok (.iaload, 1) := by decide +kernel
theorem dX9_character_32 : decode cX9_character 32 = .ok (.iconst 1, 1) := by decide +kernel
theorem dX9_character_33 : decode cX9_character 33 = .ok (.if_icmp .ne 21, 3) := by decide +kernel
theorem dX9_character_36 : decode cX9_character 36 = .ok (.iload_n 2, 1) := by decide +kernel
theorem dX9_character_37 : decode cX9_character 37 = .ok (.aload_n 0, 1) := by decide +kernel
theorem dX9_character_38 : decode cX9_character 38 = .ok (.getfield 72, 3) := by decide +kernel
theorem dX9_character_41 : decode cX9_character 41 = .ok (.iload_n 3, 1) := by decide +kernel
theorem dX9_character_42 : decode cX9_character 42 = .ok (.iaload, 1) := by decide +kernel
theorem dX9_character_43 : decode cX9_character 43 = .ok (.ifCond .ne 8, 3) := by decide +kernel
theorem dX9_character_46 : decode cX9_character 46 = .ok (.bipush 10, 2) := by decide +kernel
theorem dX9_character_48 : decode cX9_character 48 = .ok (.goto 4, 3) := by decide +kernel
theorem dX9_character_51 : decode cX9_character 51 = .ok (.iconst 5, 1) := by decide +kernel
theorem dX9_character_52 : decode cX9_character 52 = .ok (.iadd, 1) := by decide +kernel
theorem dX9_character_53 : decode cX9_character 53 = .ok (.istore_n 2, 1) := by decide +kernel
theorem dX9_character_54 : decode cX9_character 54 = .ok (.aload_n 0, 1) := by decide +kernel
theorem dX9_character_55 : decode cX9_character 55 = .ok (.getfield 78, 3) := by decide +kernel
theorem dX9_character_58 : decode cX9_character 58 = .ok (.iload_n 3, 1) := by decide +kernel
theorem dX9_character_59 : decode cX9_character 59 = .ok (.iaload, 1) := by decide +kernel
theorem dX9_character_60 : decode cX9_character 60 = .ok (.iconst 2, 1) := by decide +kernel
theorem dX9_character_61 : decode cX9_character 61 = .ok (.if_icmp .ne 6, 3) := by decide +kernel
theorem dX9_character_64 : decode cX9_character 64 = .ok (.iinc 2 (-30), 3) := by decide +kernel
theorem dX9_character_67 : decode cX9_character 67 = .ok (.iload_n 2, 1) := by decide +kernel
theorem dX9_character_68 : decode cX9_character 68 = .ok (.iconst 2, 1) := by decide +kernel
theorem dX9_character_69 : decode cX9_character 69 = .ok (.aload_n 0, 1) := by decide +kernel
theorem dX9_character_70 : decode cX9_character 70 = .ok (.getfield 72, 3) := by decide +kernel
theorem dX9_character_73 : decode cX9_character 73 = .ok (.iload_n 3, 1) := by decide +kernel
theorem dX9_character_74 : decode cX9_character 74 = .ok (.iaload, 1) := by decide +kernel
theorem dX9_character_75 : decode cX9_character 75 = .ok (.imul, 1) := by decide +kernel
theorem dX9_character_76 : decode cX9_character 76 = .ok (.isub, 1) := by decide +kernel
theorem dX9_character_77 : decode cX9_character 77 = .ok (.istore_n 2, 1) := by decide +kernel
theorem dX9_character_78 : decode cX9_character 78 = .ok (.iinc 3 1, 3) := by decide +kernel
theorem dX9_character_81 : decode cX9_character 81 = .ok (.goto (-76), 3) := by decide +kernel
theorem dX9_character_84 : decode cX9_character 84 = .ok (.iload_n 2, 1) := by decide +kernel
theorem dX9_character_85 : decode cX9_character 85 = .ok (.ifCond .ge 7, 3) := by decide +kernel
theorem dX9_character_88 : decode cX9_character 88 = .ok (.iconst 0, 1) := by decide +kernel
theorem dX9_character_89 : decode cX9_character 89 = .ok (.goto 17, 3) := by decide +kernel
theorem dX9_character_92 : decode cX9_character 92 = .ok (.iload_n 2, 1) := by decide +kernel
theorem dX9_character_93 : decode cX9_character 93 = .ok (.sipush 200, 3) := by decide +kernel
theorem dX9_character_96 : decode cX9_character 96 = .ok (.if_icmp .le 9, 3) := by decide +kernel
theorem dX9_character_99 : decode cX9_character 99 = .ok (.sipush 200, 3) := by decide +kernel
theorem dX9_character_102 : decode cX9_character 102 = .ok (.goto 4, 3) := by decide +kernel
theorem dX9_character_105 : decode cX9_character 105 = .ok (.iload_n 2, 1) := by decide +kernel
theorem dX9_character_106 : decode cX9_character 106 = .ok (.ireturn, 1) := by decide +kernel
theorem dX9_about_0 : decode cX9_about 0 = .ok (.aload_n 0, 1) := by decide +kernel
theorem dX9_about_1 : decode cX9_about 1 = .ok (.iload_n 1, 1) := by decide +kernel
theorem dX9_about_2 : decode cX9_about 2 = .ok (.invokevirtual 187, 3) := by decide +kernel
theorem dX9_about_5 : decode cX9_about 5 = .ok (.ifCond .eq 13, 3) := by decide +kernel
theorem dX9_about_8 : decode cX9_about 8 = .ok (.iload_n 2, 1) := by decide +kernel
theorem dX9_about_9 : decode cX9_about 9 = .ok (.ifCond .lt 9, 3) := by decide +kernel
theorem dX9_about_12 : decode cX9_about 12 = .ok (.iload_n 2, 1) := by decide +kernel
theorem dX9_about_13 : decode cX9_about 13 = .ok (.bipush 6, 2) := by decide +kernel
theorem dX9_about_15 : decode cX9_about 15 = .ok (.if_icmp .le 8, 3) := by decide +kernel
theorem dX9_about_18 : decode cX9_about 18 = .ok (.aload_n 0, 1) := by decide +kernel
theorem dX9_about_19 : decode cX9_about 19 = .ok (.invokevirtual 252, 3) := by decide +kernel
theorem dX9_about_22 : decode cX9_about 22 = .ok (.ireturn, 1) := by decide +kernel
theorem dX9_about_23 : decode cX9_about 23 = .ok (.aload_n 0, 1) := by decide +kernel
theorem dX9_about_24 : decode cX9_about 24 = .ok (.iconst 0, 1) := by decide +kernel
theorem dX9_about_25 : decode cX9_about 25 = .ok (.putfield 105, 3) := by decide +kernel
theorem dX9_about_28 : decode cX9_about 28 = .ok (.iload_n 2, 1) := by decide +kernel
theorem dX9_about_29 : decode cX9_about 29 = .ok (.tableswitch 88 0 6 #[43, 50, 56, 70, 76, 88, 82], 43) := by decide +kernel
theorem dX9_about_72 : decode cX9_about 72 = .ok (.aload_n 0, 1) := by decide +kernel
theorem dX9_about_73 : decode cX9_about 73 = .ok (.getfield 29, 3) := by decide +kernel
theorem dX9_about_76 : decode cX9_about 76 = .ok (.iload_n 1, 1) := by decide +kernel
theorem dX9_about_77 : decode cX9_about 77 = .ok (.iaload, 1) := by decide +kernel
theorem dX9_about_78 : decode cX9_about 78 = .ok (.ireturn, 1) := by decide +kernel
theorem dX9_about_79 : decode cX9_about 79 = .ok (.aload_n 0, 1) := by decide +kernel
theorem dX9_about_80 : decode cX9_about 80 = .ok (.iload_n 1, 1) := by decide +kernel
theorem dX9_about_81 : decode cX9_about 81 = .ok (.invokevirtual 255, 3) := by decide +kernel
theorem dX9_about_84 : decode cX9_about 84 = .ok (.ireturn, 1) := by decide +kernel
theorem dX9_about_85 : decode cX9_about 85 = .ok (.aload_n 0, 1) := by decide +kernel
theorem dX9_about_86 : decode cX9_about 86 = .ok (.iload_n 1, 1) := by decide +kernel
theorem dX9_about_87 : decode cX9_about 87 = .ok (.invokevirtual 210, 3) := by decide +kernel
theorem dX9_about_90 : decode cX9_about 90 = .ok (.ifCond .eq 7, 3) := by decide +kernel
theorem dX9_about_93 : decode cX9_about 93 = .ok (.iconst 1, 1) := by decide +kernel
theorem dX9_about_94 : decode cX9_about 94 = .ok (.goto 4, 3) := by decide +kernel
theorem dX9_about_97 : decode cX9_about 97 = .ok (.iconst 0, 1) := by decide +kernel
theorem dX9_about_98 : decode cX9_about 98 = .ok (.ireturn, 1) := by decide +kernel
theorem dX9_about_99 : decode cX9_about 99 = .ok (.aload_n 0, 1) := by decide +kernel
theorem dX9_about_100 : decode cX9_about 100 = .ok (.iload_n 1, 1) := by decide +kernel
theorem dX9_about_101 : decode cX9_about 101 = .ok (.invokevirtual 207, 3) := by decide +kernel
theorem dX9_about_104 : decode cX9_about 104 = .ok (.ireturn, 1) := by decide +kernel
theorem dX9_about_105 : decode cX9_about 105 = .ok (.aload_n 0, 1) := by decide +kernel
theorem dX9_about_106 : decode cX9_about 106 = .ok (.iload_n 1, 1) := by decide +kernel
theorem dX9_about_107 : decode cX9_about 107 = .ok (.invokevirtual 217, 3) := by decide +kernel
theorem dX9_about_110 : decode cX9_about 110 = .ok (.ireturn, 1) := by decide +kernel
theorem dX9_about_111 : decode cX9_about 111 = .ok (.aload_n 0, 1) := by decide +kernel
theorem dX9_about_112 : decode cX9_about 112 = .ok (.iload_n 1, 1) := by decide +kernel
theorem dX9_about_113 : decode cX9_about 113 = .ok (.invokevirtual 233, 3) := by decide +kernel
theorem dX9_about_116 : decode cX9_about 116 = .ok (.ireturn, 1) := by decide +kernel
theorem dX9_about_117 : decode cX9_about 117 = .ok (.iconst 0, 1) := by decide +kernel
theorem dX9_about_118 : decode cX9_about 118 = .ok (.istore_n 3, 1) := by decide +kernel
theorem dX9_about_119 : decode cX9_about 119 = .ok (.iconst 0, 1) := by decide +kernel
theorem dX9_about_120 : decode cX9_about 120 = .ok (.istore 4, 2) := by decide +kernel
theorem dX9_about_122 : decode cX9_about 122 = .ok (.iload 4, 2) := by decide +kernel
theorem dX9_about_124 : decode cX9_about 124 = .ok (.aload_n 0, 1) := by decide +kernel
theorem dX9_about_125 : decode cX9_about 125 = .ok (.getfield 201, 3) := by decide +kernel
theorem dX9_about_128 : decode cX9_about 128 = .ok (.if_icmp .ge 33, 3) := by decide +kernel
theorem dX9_about_131 : decode cX9_about 131 = .ok (.aload_n 0, 1) := by decide +kernel
theorem dX9_about_132 : decode cX9_about 132 = .ok (.getfield 93, 3) := by decide +kernel
theorem dX9_about_135 : decode cX9_about 135 = .ok (.iload 4, 2) := by decide +kernel
theorem dX9_about_137 : decode cX9_about 137 = .ok (.iaload, 1) := by decide +kernel
theorem dX9_about_138 : decode cX9_about 138 = .ok (.iload_n 1, 1) := by decide +kernel
theorem dX9_about_139 : decode cX9_about 139 = .ok (.if_icmp .ne 16, 3) := by decide +kernel
theorem dX9_about_142 : decode cX9_about 142 = .ok (.aload_n 0, 1) := by decide +kernel
theorem dX9_about_143 : decode cX9_about 143 = .ok (.getfield 99, 3) := by decide +kernel
theorem dX9_about_146 : decode cX9_about 146 = .ok (.iload 4, 2) := by decide +kernel
theorem dX9_about_148 : decode cX9_about 148 = .ok (.iaload, 1) := by decide +kernel
theorem dX9_about_149 : decode cX9_about 149 = .ok (.ifCond .le 6, 3) := by decide +kernel
theorem dX9_about_152 : decode cX9_about 152 = .ok (.iinc 3 1, 3) := by decide +kernel
theorem dX9_about_155 : decode cX9_about 155 = .ok (.iinc 4 1, 3) := by decide +kernel
theorem dX9_about_158 : decode cX9_about 158 = .ok (.goto (-36), 3) := by decide +kernel
theorem dX9_about_161 : decode cX9_about 161 = .ok (.iload_n 3, 1) := by decide +kernel
theorem dX9_about_162 : decode cX9_about 162 = .ok (.ireturn, 1) := by decide +kernel
theorem dX9_ring_0 : decode cX9_ring 0 = .ok (.aload_n 0, 1) := by decide +kernel
theorem dX9_ring_1 : decode cX9_ring 1 = .ok (.iconst 0, 1) := by decide +kernel
theorem dX9_ring_2 : decode cX9_ring 2 = .ok (.putfield 105, 3) := by decide +kernel
theorem dX9_ring_5 : decode cX9_ring 5 = .ok (.aload_n 0, 1) := by decide +kernel
theorem dX9_ring_6 : decode cX9_ring 6 = .ok (.iload_n 1, 1) := by decide +kernel
theorem dX9_ring_7 : decode cX9_ring 7 = .ok (.invokevirtual 187, 3) := by decide +kernel
theorem dX9_ring_10 : decode cX9_ring 10 = .ok (.ifCond .eq 11, 3) := by decide +kernel
theorem dX9_ring_13 : decode cX9_ring 13 = .ok (.aload_n 0, 1) := by decide +kernel
theorem dX9_ring_14 : decode cX9_ring 14 = .ok (.iload_n 1, 1) := by decide +kernel
theorem dX9_ring_15 : decode cX9_ring 15 = .ok (.invokevirtual 207, 3) := by decide +kernel
theorem dX9_ring_18 : decode cX9_ring 18 = .ok (.goto 4, 3) := by decide +kernel
theorem dX9_ring_21 : decode cX9_ring 21 = .ok (.iconst (-1), 1) := by decide +kernel
theorem dX9_ring_22 : decode cX9_ring 22 = .ok (.istore_n 2, 1) := by decide +kernel
theorem dX9_ring_23 : decode cX9_ring 23 = .ok (.iload_n 2, 1) := by decide +kernel
theorem dX9_ring_24 : decode cX9_ring 24 = .ok (.iconst (-1), 1) := by decide +kernel
theorem dX9_ring_25 : decode cX9_ring 25 = .ok (.if_icmp .ne 5, 3) := by decide +kernel
theorem dX9_ring_28 : decode cX9_ring 28 = .ok (.iconst (-1), 1) := by decide +kernel
theorem dX9_ring_29 : decode cX9_ring 29 = .ok (.ireturn, 1) := by decide +kernel
theorem dX9_ring_30 : decode cX9_ring 30 = .ok (.aload_n 0, 1) := by decide +kernel
theorem dX9_ring_31 : decode cX9_ring 31 = .ok (.invokevirtual 220, 3) := by decide +kernel
theorem dX9_ring_34 : decode cX9_ring 34 = .ok (.iconst 0, 1) := by decide +kernel
theorem dX9_ring_35 : decode cX9_ring 35 = .ok (.istore_n 3, 1) := by decide +kernel
theorem dX9_ring_36 : decode cX9_ring 36 = .ok (.iload_n 3, 1) := by decide +kernel
theorem dX9_ring_37 : decode cX9_ring 37 = .ok (.aload_n 0, 1) := by decide +kernel
theorem dX9_ring_38 : decode cX9_ring 38 = .ok (.getfield 84, 3) := by decide +kernel
theorem dX9_ring_41 : decode cX9_ring 41 = .ok (.iload_n 2, 1) := by decide +kernel
theorem dX9_ring_42 : decode cX9_ring 42 = .ok (.iaload, 1) := by decide +kernel
theorem dX9_ring_43 : decode cX9_ring 43 = .ok (.if_icmp .ge 25, 3) := by decide +kernel
theorem dX9_ring_46 : decode cX9_ring 46 = .ok (.aload_n 0, 1) := by decide +kernel
theorem dX9_ring_47 : decode cX9_ring 47 = .ok (.getfield 102, 3) := by decide +kernel
theorem dX9_ring_50 : decode cX9_ring 50 = .ok (.aload_n 0, 1) := by decide +kernel
theorem dX9_ring_51 : decode cX9_ring 51 = .ok (.getfield 87, 3) := by decide +kernel
theorem dX9_ring_54 : decode cX9_ring 54 = .ok (.iconst 3, 1) := by decide +kernel
theorem dX9_ring_55 : decode cX9_ring 55 = .ok (.iload_n 2, 1) := by decide +kernel
theorem dX9_ring_56 : decode cX9_ring 56 = .ok (.imul, 1) := by decide +kernel
theorem dX9_ring_57 : decode cX9_ring 57 = .ok (.iload_n 3, 1) := by decide +kernel
theorem dX9_ring_58 : decode cX9_ring 58 = .ok (.iadd, 1) := by decide +kernel
theorem dX9_ring_59 : decode cX9_ring 59 = .ok (.iaload, 1) := by decide +kernel
theorem dX9_ring_60 : decode cX9_ring 60 = .ok (.iconst 1, 1) := by decide +kernel
theorem dX9_ring_61 : decode cX9_ring 61 = .ok (.iastore, 1) := by decide +kernel
theorem dX9_ring_62 : decode cX9_ring 62 = .ok (.iinc 3 1, 3) := by decide +kernel
theorem dX9_ring_65 : decode cX9_ring 65 = .ok (.goto (-29), 3) := by decide +kernel
theorem dX9_ring_68 : decode cX9_ring 68 = .ok (.aload_n 0, 1) := by decide +kernel
theorem dX9_ring_69 : decode cX9_ring 69 = .ok (.invokevirtual 223, 3) := by decide +kernel
theorem dX9_ring_72 : decode cX9_ring 72 = .ok (.aload_n 0, 1) := by decide +kernel
theorem dX9_ring_73 : decode cX9_ring 73 = .ok (.getfield 102, 3) := by decide +kernel
theorem dX9_ring_76 : decode cX9_ring 76 = .ok (.iload_n 1, 1) := by decide +kernel
theorem dX9_ring_77 : decode cX9_ring 77 = .ok (.iaload, 1) := by decide +kernel
theorem dX9_ring_78 : decode cX9_ring 78 = .ok (.ireturn, 1) := by decide +kernel
theorem dX9_count_0 : decode cX9_count 0 = .ok (.aload_n 0, 1) := by decide +kernel
theorem dX9_count_1 : decode cX9_count 1 = .ok (.iconst 0, 1) := by decide +kernel
theorem dX9_count_2 : decode cX9_count 2 = .ok (.putfield 105, 3) := by decide +kernel
theorem dX9_count_5 : decode cX9_count 5 = .ok (.iload_n 1, 1) := by decide +kernel
theorem dX9_count_6 : decode cX9_count 6 = .ok (.tableswitch 81 0 7 #[46, 51, 56, 61, 81, 66, 71, 76], 46) := by decide +kernel
theorem dX9_count_52 : decode cX9_count 52 = .ok (.aload_n 0, 1) := by decide +kernel
theorem dX9_count_53 : decode cX9_count 53 = .ok (.getfield 230, 3) := by decide +kernel
theorem dX9_count_56 : decode cX9_count 56 = .ok (.ireturn, 1) := by decide +kernel
theorem dX9_count_57 : decode cX9_count 57 = .ok (.aload_n 0, 1) := by decide +kernel
theorem dX9_count_58 : decode cX9_count 58 = .ok (.getfield 184, 3) := by decide +kernel
theorem dX9_count_61 : decode cX9_count 61 = .ok (.ireturn, 1) := by decide +kernel
theorem dX9_count_62 : decode cX9_count 62 = .ok (.aload_n 0, 1) := by decide +kernel
theorem dX9_count_63 : decode cX9_count 63 = .ok (.getfield 41, 3) := by decide +kernel
theorem dX9_count_66 : decode cX9_count 66 = .ok (.ireturn, 1) := by decide +kernel
theorem dX9_count_67 : decode cX9_count 67 = .ok (.aload_n 0, 1) := by decide +kernel
theorem dX9_count_68 : decode cX9_count 68 = .ok (.getfield 198, 3) := by decide +kernel
theorem dX9_count_71 : decode cX9_count 71 = .ok (.ireturn, 1) := by decide +kernel
theorem dX9_count_72 : decode cX9_count 72 = .ok (.aload_n 0, 1) := by decide +kernel
theorem dX9_count_73 : decode cX9_count 73 = .ok (.getfield 243, 3) := by decide +kernel
theorem dX9_count_76 : decode cX9_count 76 = .ok (.ireturn, 1) := by decide +kernel
theorem dX9_count_77 : decode cX9_count 77 = .ok (.aload_n 0, 1) := by decide +kernel
theorem dX9_count_78 : decode cX9_count 78 = .ok (.getfield 191, 3) := by decide +kernel
theorem dX9_count_81 : decode cX9_count 81 = .ok (.ireturn, 1) := by decide +kernel
theorem dX9_count_82 : decode cX9_count 82 = .ok (.aload_n 0, 1) := by decide +kernel
theorem dX9_count_83 : decode cX9_count 83 = .ok (.getfield 108, 3) := by decide +kernel
theorem dX9_count_86 : decode cX9_count 86 = .ok (.ireturn, 1) := by decide +kernel
theorem dX9_count_87 : decode cX9_count 87 = .ok (.iload_n 1, 1) := by decide +kernel
theorem dX9_count_88 : decode cX9_count 88 = .ok (.iconst 4, 1) := by decide +kernel
theorem dX9_count_89 : decode cX9_count 89 = .ok (.if_icmp .eq 5, 3) := by decide +kernel
theorem dX9_count_92 : decode cX9_count 92 = .ok (.iconst (-1), 1) := by decide +kernel
theorem dX9_count_93 : decode cX9_count 93 = .ok (.ireturn, 1) := by decide +kernel
theorem dX9_count_94 : decode cX9_count 94 = .ok (.iconst 0, 1) := by decide +kernel
theorem dX9_count_95 : decode cX9_count 95 = .ok (.istore_n 2, 1) := by decide +kernel
theorem dX9_count_96 : decode cX9_count 96 = .ok (.iconst 0, 1) := by decide +kernel
theorem dX9_count_97 : decode cX9_count 97 = .ok (.istore_n 3, 1) := by decide +kernel
theorem dX9_count_98 : decode cX9_count 98 = .ok (.iload_n 3, 1) := by decide +kernel
theorem dX9_count_99 : decode cX9_count 99 = .ok (.aload_n 0, 1) := by decide +kernel
theorem dX9_count_100 : decode cX9_count 100 = .ok (.getfield 198, 3) := by decide +kernel
theorem dX9_count_103 : decode cX9_count 103 = .ok (.if_icmp .ge 21, 3) := by decide +kernel
theorem dX9_count_106 : decode cX9_count 106 = .ok (.aload_n 0, 1) := by decide +kernel
theorem dX9_count_107 : decode cX9_count 107 = .ok (.getfield 78, 3) := by decide +kernel
theorem dX9_count_110 : decode cX9_count 110 = .ok (.iload_n 3, 1) := by decide +kernel
theorem dX9_count_111 : decode cX9_count 111 = .ok (.iaload, 1) := by decide +kernel
theorem dX9_count_112 : decode cX9_count 112 = .ok (.ifCond .ne 6, 3) := by decide +kernel
theorem dX9_count_115 : decode cX9_count 115 = .ok (.iinc 2 1, 3) := by decide +kernel
theorem dX9_count_118 : decode cX9_count 118 = .ok (.iinc 3 1, 3) := by decide +kernel
theorem dX9_count_121 : decode cX9_count 121 = .ok (.goto (-23), 3) := by decide +kernel
theorem dX9_count_124 : decode cX9_count 124 = .ok (.iload_n 2, 1) := by decide +kernel
theorem dX9_count_125 : decode cX9_count 125 = .ok (.ireturn, 1) := by decide +kernel
