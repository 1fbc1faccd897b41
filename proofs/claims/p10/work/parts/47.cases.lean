theorem wd_68 : Cond.methodLink R_La 46 y_La_put ∈ mGood := mg_of (i := 639) (by decide +kernel) rfl
theorem wd_69 : Cond.methodLink R_La 52 y_La_cut ∈ mGood := mg_of (i := 732) (by decide +kernel) rfl
theorem wd_70 : Cond.methodLink R_La 56 y_La_filter ∈ mGood := mg_of (i := 741) (by decide +kernel) rfl
theorem wd_71 : Cond.methodLink R_La 59 y_La_predict ∈ mGood := mg_of (i := 771) (by decide +kernel) rfl
theorem wd_72 : Cond.methodLink R_La 67 y_La_budget ∈ mGood := mg_of (i := 791) (by decide +kernel) rfl
theorem wd_73 : Cond.methodLink R_La 82 y_La_keep ∈ mGood := mg_of (i := 799) (by decide +kernel) rfl
theorem lk_La_41 : mLk R_La 41 y_SF_feed := Or.inl (mg_of (i := 339) (by decide +kernel) rfl)
theorem lk_La_45 : mLk R_La 45 y_Mo_feed := Or.inl (mg_of (i := 908) (by decide +kernel) rfl)
theorem lk_La_51 : mLk R_La 51 y_Mo_put := Or.inl (mg_of (i := 912) (by decide +kernel) rfl)
theorem lk_La_55 : mLk R_La 55 y_Mo_cut := Or.inl (mg_of (i := 923) (by decide +kernel) rfl)
theorem lk_La_58 : mLk R_La 58 y_Mo_filter := Or.inl (mg_of (i := 927) (by decide +kernel) rfl)
theorem lk_La_62 : mLk R_La 62 y_Mo_predict := Or.inl (mg_of (i := 931) (by decide +kernel) rfl)
theorem lk_La_63 : mLk R_La 63 y_SF_drop := Or.inl (mg_of (i := 351) (by decide +kernel) rfl)
theorem lk_La_66 : mLk R_La 66 y_Mo_drop := Or.inl (mg_of (i := 935) (by decide +kernel) rfl)
theorem lk_La_69 : mLk R_La 69 y_Mo_budget := Or.inl (mg_of (i := 939) (by decide +kernel) rfl)
theorem lk_La_70 : mLk R_La 70 y_SF_decode := Or.inl (mg_of (i := 355) (by decide +kernel) rfl)
theorem lk_La_73 : mLk R_La 73 y_Mo_decode := Or.inl (mg_of (i := 943) (by decide +kernel) rfl)
theorem lk_La_74 : mLk R_La 74 y_SF_at := Or.inl (mg_of (i := 630) (by decide +kernel) rfl)
theorem lk_La_77 : mLk R_La 77 y_Mo_at := Or.inl (mg_of (i := 1122) (by decide +kernel) rfl)
theorem lk_La_78 : mLk R_La 78 y_SF_fault := Or.inl (mg_of (i := 635) (by decide +kernel) rfl)
theorem lk_La_81 : mLk R_La 81 y_Mo_fault := Or.inl (mg_of (i := 1126) (by decide +kernel) rfl)
theorem lk_La_85 : mLk R_La 85 y_Mo_keep := Or.inl (mg_of (i := 1130) (by decide +kernel) rfl)
abbrev b_La_law : ByteArray := code
theorem d_La_law_0 : decode b_La_law 0 = .ok (.new 8, 3) := by decide +kernel
theorem d_La_law_3 : decode b_La_law 3 = .ok (.dup, 1) := by decide +kernel
theorem d_La_law_4 : decode b_La_law 4 = .ok (.invokespecial 37, 3) := by decide +kernel
theorem d_La_law_7 : decode b_La_law 7 = .ok (.astore_n 1, 1) := by decide +kernel
theorem d_La_law_8 : decode b_La_law 8 = .ok (.new 38, 3) := by decide +kernel
theorem d_La_law_11 : decode b_La_law 11 = .ok (.dup, 1) := by decide +kernel
theorem d_La_law_12 : decode b_La_law 12 = .ok (.invokespecial 40, 3) := by decide +kernel
theorem d_La_law_15 : decode b_La_law 15 = .ok (.astore_n 2, 1) := by decide +kernel
theorem d_La_law_16 : decode b_La_law 16 = .ok (.iconst 1, 1) := by decide +kernel
theorem d_La_law_17 : decode b_La_law 17 = .ok (.newarray .long, 2) := by decide +kernel
theorem d_La_law_19 : decode b_La_law 19 = .ok (.astore_n 3, 1) := by decide +kernel
theorem d_La_law_20 : decode b_La_law 20 = .ok (.iconst 0, 1) := by decide +kernel
theorem d_La_law_21 : decode b_La_law 21 = .ok (.istore 4, 2) := by decide +kernel
theorem d_La_law_23 : decode b_La_law 23 = .ok (.iload 4, 2) := by decide +kernel
theorem d_La_law_25 : decode b_La_law 25 = .ok (.aload_n 0, 1) := by decide +kernel
theorem d_La_law_26 : decode b_La_law 26 = .ok (.arraylength, 1) := by decide +kernel
theorem d_La_law_27 : decode b_La_law 27 = .ok (.bipush 6, 2) := by decide +kernel
theorem d_La_law_29 : decode b_La_law 29 = .ok (.isub, 1) := by decide +kernel
theorem d_La_law_30 : decode b_La_law 30 = .ok (.if_icmp .gt 438, 3) := by decide +kernel
theorem d_La_law_33 : decode b_La_law 33 = .ok (.aload_n 0, 1) := by decide +kernel
theorem d_La_law_34 : decode b_La_law 34 = .ok (.iload 4, 2) := by decide +kernel
theorem d_La_law_36 : decode b_La_law 36 = .ok (.iaload, 1) := by decide +kernel
theorem d_La_law_37 : decode b_La_law 37 = .ok (.bipush 15, 2) := by decide +kernel
theorem d_La_law_39 : decode b_La_law 39 = .ok (.iand, 1) := by decide +kernel
theorem d_La_law_40 : decode b_La_law 40 = .ok (.tableswitch 422 0 10 #[60, 133, 173, 201, 241, 302, 315, 343, 356, 381, 406], 60) := by decide +kernel
theorem d_La_law_100 : decode b_La_law 100 = .ok (.aload_n 1, 1) := by decide +kernel
theorem d_La_law_101 : decode b_La_law 101 = .ok (.aload_n 0, 1) := by decide +kernel
theorem d_La_law_102 : decode b_La_law 102 = .ok (.iload 4, 2) := by decide +kernel
theorem d_La_law_104 : decode b_La_law 104 = .ok (.iconst 1, 1) := by decide +kernel
theorem d_La_law_105 : decode b_La_law 105 = .ok (.iadd, 1) := by decide +kernel
theorem d_La_law_106 : decode b_La_law 106 = .ok (.iaload, 1) := by decide +kernel
theorem d_La_law_107 : decode b_La_law 107 = .ok (.aload_n 0, 1) := by decide +kernel
theorem d_La_law_108 : decode b_La_law 108 = .ok (.iload 4, 2) := by decide +kernel
theorem d_La_law_110 : decode b_La_law 110 = .ok (.iconst 2, 1) := by decide +kernel
theorem d_La_law_111 : decode b_La_law 111 = .ok (.iadd, 1) := by decide +kernel
theorem d_La_law_112 : decode b_La_law 112 = .ok (.iaload, 1) := by decide +kernel
theorem d_La_law_113 : decode b_La_law 113 = .ok (.aload_n 0, 1) := by decide +kernel
theorem d_La_law_114 : decode b_La_law 114 = .ok (.iload 4, 2) := by decide +kernel
theorem d_La_law_116 : decode b_La_law 116 = .ok (.iconst 3, 1) := by decide +kernel
theorem d_La_law_117 : decode b_La_law 117 = .ok (.iadd, 1) := by decide +kernel
theorem d_La_law_118 : decode b_La_law 118 = .ok (.iaload, 1) := by decide +kernel
theorem d_La_law_119 : decode b_La_law 119 = .ok (.aload_n 0, 1) := by decide +kernel
theorem d_La_law_120 : decode b_La_law 120 = .ok (.iload 4, 2) := by decide +kernel
theorem d_La_law_122 : decode b_La_law 122 = .ok (.iconst 4, 1) := by decide +kernel
theorem d_La_law_123 : decode b_La_law 123 = .ok (.iadd, 1) := by decide +kernel
theorem d_La_law_124 : decode b_La_law 124 = .ok (.iaload, 1) := by decide +kernel
theorem d_La_law_125 : decode b_La_law 125 = .ok (.aload_n 0, 1) := by decide +kernel
theorem d_La_law_126 : decode b_La_law 126 = .ok (.iload 4, 2) := by decide +kernel
theorem d_La_law_128 : decode b_La_law 128 = .ok (.iconst 5, 1) := by decide +kernel
theorem d_La_law_129 : decode b_La_law 129 = .ok (.iadd, 1) := by decide +kernel
theorem d_La_law_130 : decode b_La_law 130 = .ok (.iaload, 1) := by decide +kernel
theorem d_La_law_131 : decode b_La_law 131 = .ok (.invokevirtual 41, 3) := by decide +kernel
theorem d_La_law_134 : decode b_La_law 134 = .ok (.pop, 1) := by decide +kernel
theorem d_La_law_135 : decode b_La_law 135 = .ok (.aload_n 2, 1) := by decide +kernel
theorem d_La_law_136 : decode b_La_law 136 = .ok (.aload_n 0, 1) := by decide +kernel
theorem d_La_law_137 : decode b_La_law 137 = .ok (.iload 4, 2) := by decide +kernel
theorem d_La_law_139 : decode b_La_law 139 = .ok (.iconst 1, 1) := by decide +kernel
theorem d_La_law_140 : decode b_La_law 140 = .ok (.iadd, 1) := by decide +kernel
theorem d_La_law_141 : decode b_La_law 141 = .ok (.iaload, 1) := by decide +kernel
theorem d_La_law_142 : decode b_La_law 142 = .ok (.aload_n 0, 1) := by decide +kernel
theorem d_La_law_143 : decode b_La_law 143 = .ok (.iload 4, 2) := by decide +kernel
theorem d_La_law_145 : decode b_La_law 145 = .ok (.iconst 2, 1) := by decide +kernel
theorem d_La_law_146 : decode b_La_law 146 = .ok (.iadd, 1) := by decide +kernel
theorem d_La_law_147 : decode b_La_law 147 = .ok (.iaload, 1) := by decide +kernel
theorem d_La_law_148 : decode b_La_law 148 = .ok (.aload_n 0, 1) := by decide +kernel
theorem d_La_law_149 : decode b_La_law 149 = .ok (.iload 4, 2) := by decide +kernel
theorem d_La_law_151 : decode b_La_law 151 = .ok (.iconst 3, 1) := by decide +kernel
theorem d_La_law_152 : decode b_La_law 152 = .ok (.iadd, 1) := by decide +kernel
theorem d_La_law_153 : decode b_La_law 153 = .ok (.iaload, 1) := by decide +kernel
theorem d_La_law_154 : decode b_La_law 154 = .ok (.aload_n 0, 1) := by decide +kernel
theorem d_La_law_155 : decode b_La_law 155 = .ok (.iload 4, 2) := by decide +kernel
theorem d_La_law_157 : decode b_La_law 157 = .ok (.iconst 4, 1) := by decide +kernel
theorem d_La_law_158 : decode b_La_law 158 = .ok (.iadd, 1) := by decide +kernel
theorem d_La_law_159 : decode b_La_law 159 = .ok (.iaload, 1) := by decide +kernel
theorem d_La_law_160 : decode b_La_law 160 = .ok (.aload_n 0, 1) := by decide +kernel
theorem d_La_law_161 : decode b_La_law 161 = .ok (.iload 4, 2) := by decide +kernel
theorem d_La_law_163 : decode b_La_law 163 = .ok (.iconst 5, 1) := by decide +kernel
theorem d_La_law_164 : decode b_La_law 164 = .ok (.iadd, 1) := by decide +kernel
theorem d_La_law_165 : decode b_La_law 165 = .ok (.iaload, 1) := by decide +kernel
theorem d_La_law_166 : decode b_La_law 166 = .ok (.invokevirtual 45, 3) := by decide +kernel
theorem d_La_law_169 : decode b_La_law 169 = .ok (.pop, 1) := by decide +kernel
theorem d_La_law_170 : decode b_La_law 170 = .ok (.goto 292, 3) := by decide +kernel
theorem d_La_law_173 : decode b_La_law 173 = .ok (.aload_n 1, 1) := by decide +kernel
theorem d_La_law_174 : decode b_La_law 174 = .ok (.aload_n 0, 1) := by decide +kernel
theorem d_La_law_175 : decode b_La_law 175 = .ok (.iload 4, 2) := by decide +kernel
theorem d_La_law_177 : decode b_La_law 177 = .ok (.iconst 1, 1) := by decide +kernel
theorem d_La_law_178 : decode b_La_law 178 = .ok (.iadd, 1) := by decide +kernel
theorem d_La_law_179 : decode b_La_law 179 = .ok (.iaload, 1) := by decide +kernel
theorem d_La_law_180 : decode b_La_law 180 = .ok (.aload_n 0, 1) := by decide +kernel
theorem d_La_law_181 : decode b_La_law 181 = .ok (.iload 4, 2) := by decide +kernel
theorem d_La_law_183 : decode b_La_law 183 = .ok (.iconst 2, 1) := by decide +kernel
theorem d_La_law_184 : decode b_La_law 184 = .ok (.iadd, 1) := by decide +kernel
theorem d_La_law_185 : decode b_La_law 185 = .ok (.iaload, 1) := by decide +kernel
theorem d_La_law_186 : decode b_La_law 186 = .ok (.aload_n 3, 1) := by decide +kernel
theorem d_La_law_187 : decode b_La_law 187 = .ok (.invokestatic 46, 3) := by decide +kernel
theorem d_La_law_190 : decode b_La_law 190 = .ok (.istore 5, 2) := by decide +kernel
theorem d_La_law_192 : decode b_La_law 192 = .ok (.aload_n 2, 1) := by decide +kernel
theorem d_La_law_193 : decode b_La_law 193 = .ok (.aload_n 0, 1) := by decide +kernel
theorem d_La_law_194 : decode b_La_law 194 = .ok (.iload 4, 2) := by decide +kernel
theorem d_La_law_196 : decode b_La_law 196 = .ok (.iconst 1, 1) := by decide +kernel
theorem d_La_law_197 : decode b_La_law 197 = .ok (.iadd, 1) := by decide +kernel
theorem d_La_law_198 : decode b_La_law 198 = .ok (.iaload, 1) := by decide +kernel
theorem d_La_law_199 : decode b_La_law 199 = .ok (.aload_n 0, 1) := by decide +kernel
theorem d_La_law_200 : decode b_La_law 200 = .ok (.iload 4, 2) := by decide +kernel
theorem d_La_law_202 : decode b_La_law 202 = .ok (.iconst 2, 1) := by decide +kernel
theorem d_La_law_203 : decode b_La_law 203 = .ok (.iadd, 1) := by decide +kernel
theorem d_La_law_204 : decode b_La_law 204 = .ok (.iaload, 1) := by decide +kernel
theorem d_La_law_205 : decode b_La_law 205 = .ok (.invokevirtual 51, 3) := by decide +kernel
theorem d_La_law_208 : decode b_La_law 208 = .ok (.istore 6, 2) := by decide +kernel
theorem d_La_law_210 : decode b_La_law 210 = .ok (.goto 252, 3) := by decide +kernel
theorem d_La_law_213 : decode b_La_law 213 = .ok (.aload_n 1, 1) := by decide +kernel
theorem d_La_law_214 : decode b_La_law 214 = .ok (.aload_n 0, 1) := by decide +kernel
theorem d_La_law_215 : decode b_La_law 215 = .ok (.iload 4, 2) := by decide +kernel
theorem d_La_law_217 : decode b_La_law 217 = .ok (.iconst 1, 1) := by decide +kernel
theorem d_La_law_218 : decode b_La_law 218 = .ok (.iadd, 1) := by decide +kernel
theorem d_La_law_219 : decode b_La_law 219 = .ok (.iaload, 1) := by decide +kernel
theorem d_La_law_220 : decode b_La_law 220 = .ok (.aload_n 3, 1) := by decide +kernel
theorem d_La_law_221 : decode b_La_law 221 = .ok (.invokestatic 52, 3) := by decide +kernel
theorem d_La_law_224 : decode b_La_law 224 = .ok (.istore 5, 2) := by decide +kernel
theorem d_La_law_226 : decode b_La_law 226 = .ok (.aload_n 2, 1) := by decide +kernel
theorem d_La_law_227 : decode b_La_law 227 = .ok (.aload_n 0, 1) := by decide +kernel
theorem d_La_law_228 : decode b_La_law 228 = .ok (.iload 4, 2) := by decide +kernel
theorem d_La_law_230 : decode b_La_law 230 = .ok (.iconst 1, 1) := by decide +kernel
theorem d_La_law_231 : decode b_La_law 231 = .ok (.iadd, 1) := by decide +kernel
theorem d_La_law_232 : decode b_La_law 232 = .ok (.iaload, 1) := by decide +kernel
theorem d_La_law_233 : decode b_La_law 233 = .ok (.invokevirtual 55, 3) := by decide +kernel
theorem d_La_law_236 : decode b_La_law 236 = .ok (.istore 6, 2) := by decide +kernel
theorem d_La_law_238 : decode b_La_law 238 = .ok (.goto 224, 3) := by decide +kernel
theorem d_La_law_241 : decode b_La_law 241 = .ok (.aload_n 1, 1) := by decide +kernel
theorem d_La_law_242 : decode b_La_law 242 = .ok (.aload_n 0, 1) := by decide +kernel
theorem d_La_law_243 : decode b_La_law 243 = .ok (.iload 4, 2) := by decide +kernel
theorem d_La_law_245 : decode b_La_law 245 = .ok (.iconst 1, 1) := by decide +kernel
theorem d_La_law_246 : decode b_La_law 246 = .ok (.iadd, 1) := by decide +kernel
theorem d_La_law_247 : decode b_La_law 247 = .ok (.iaload, 1) := by decide +kernel
theorem d_La_law_248 : decode b_La_law 248 = .ok (.aload_n 0, 1) := by decide +kernel
theorem d_La_law_249 : decode b_La_law 249 = .ok (.iload 4, 2) := by decide +kernel
theorem d_La_law_251 : decode b_La_law 251 = .ok (.iconst 2, 1) := by decide +kernel
theorem d_La_law_252 : decode b_La_law 252 = .ok (.iadd, 1) := by decide +kernel
theorem d_La_law_253 : decode b_La_law 253 = .ok (.iaload, 1) := by decide +kernel
theorem d_La_law_254 : decode b_La_law 254 = .ok (.aload_n 3, 1) := by decide +kernel
theorem d_La_law_255 : decode b_La_law 255 = .ok (.invokestatic 56, 3) := by decide +kernel
theorem d_La_law_258 : decode b_La_law 258 = .ok (.istore 5, 2) := by decide +kernel
theorem d_La_law_260 : decode b_La_law 260 = .ok (.aload_n 2, 1) := by decide +kernel
theorem d_La_law_261 : decode b_La_law 261 = .ok (.aload_n 0, 1) := by decide +kernel
theorem d_La_law_262 : decode b_La_law 262 = .ok (.iload 4, 2) := by decide +kernel
theorem d_La_law_264 : decode b_La_law 264 = .ok (.iconst 1, 1) := by decide +kernel
theorem d_La_law_265 : decode b_La_law 265 = .ok (.iadd, 1) := by decide +kernel
theorem d_La_law_266 : decode b_La_law 266 = .ok (.iaload, 1) := by decide +kernel
theorem d_La_law_267 : decode b_La_law 267 = .ok (.aload_n 0, 1) := by decide +kernel
theorem d_La_law_268 : decode b_La_law 268 = .ok (.iload 4, 2) := by decide +kernel
theorem d_La_law_270 : decode b_La_law 270 = .ok (.iconst 2, 1) := by decide +kernel
theorem d_La_law_271 : decode b_La_law 271 = .ok (.iadd, 1) := by decide +kernel
theorem d_La_law_272 : decode b_La_law 272 = .ok (.iaload, 1) := by decide +kernel
theorem d_La_law_273 : decode b_La_law 273 = .ok (.invokevirtual 58, 3) := by decide +kernel
theorem d_La_law_276 : decode b_La_law 276 = .ok (.istore 6, 2) := by decide +kernel
theorem d_La_law_278 : decode b_La_law 278 = .ok (.goto 184, 3) := by decide +kernel
theorem d_La_law_281 : decode b_La_law 281 = .ok (.aload_n 1, 1) := by decide +kernel
theorem d_La_law_282 : decode b_La_law 282 = .ok (.aload_n 0, 1) := by decide +kernel
theorem d_La_law_283 : decode b_La_law 283 = .ok (.iload 4, 2) := by decide +kernel
theorem d_La_law_285 : decode b_La_law 285 = .ok (.iconst 1, 1) := by decide +kernel
theorem d_La_law_286 : decode b_La_law 286 = .ok (.iadd, 1) := by decide +kernel
theorem d_La_law_287 : decode b_La_law 287 = .ok (.iaload, 1) := by decide +kernel
theorem d_La_law_288 : decode b_La_law 288 = .ok (.aload_n 0, 1) := by decide +kernel
theorem d_La_law_289 : decode b_La_law 289 = .ok (.iload 4, 2) := by decide +kernel
theorem d_La_law_291 : decode b_La_law 291 = .ok (.iconst 2, 1) := by decide +kernel
theorem d_La_law_292 : decode b_La_law 292 = .ok (.iadd, 1) := by decide +kernel
theorem d_La_law_293 : decode b_La_law 293 = .ok (.iaload, 1) := by decide +kernel
theorem d_La_law_294 : decode b_La_law 294 = .ok (.aload_n 0, 1) := by decide +kernel
theorem d_La_law_295 : decode b_La_law 295 = .ok (.iload 4, 2) := by decide +kernel
theorem d_La_law_297 : decode b_La_law 297 = .ok (.iconst 3, 1) := by decide +kernel
theorem d_La_law_298 : decode b_La_law 298 = .ok (.iadd, 1) := by decide +kernel
theorem d_La_law_299 : decode b_La_law 299 = .ok (.iaload, 1) := by decide +kernel
theorem d_La_law_300 : decode b_La_law 300 = .ok (.aload_n 0, 1) := by decide +kernel
theorem d_La_law_301 : decode b_La_law 301 = .ok (.iload 4, 2) := by decide +kernel
theorem d_La_law_303 : decode b_La_law 303 = .ok (.iconst 4, 1) := by decide +kernel
theorem d_La_law_304 : decode b_La_law 304 = .ok (.iadd, 1) := by decide +kernel
theorem d_La_law_305 : decode b_La_law 305 = .ok (.iaload, 1) := by decide +kernel
theorem d_La_law_306 : decode b_La_law 306 = .ok (.invokestatic 59, 3) := by decide +kernel
theorem d_La_law_309 : decode b_La_law 309 = .ok (.istore 5, 2) := by decide +kernel
theorem d_La_law_311 : decode b_La_law 311 = .ok (.aload_n 2, 1) := by decide +kernel
theorem d_La_law_312 : decode b_La_law 312 = .ok (.aload_n 0, 1) := by decide +kernel
theorem d_La_law_313 : decode b_La_law 313 = .ok (.iload 4, 2) := by decide +kernel
theorem d_La_law_315 : decode b_La_law 315 = .ok (.iconst 1, 1) := by decide +kernel
theorem d_La_law_316 : decode b_La_law 316 = .ok (.iadd, 1) := by decide +kernel
theorem d_La_law_317 : decode b_La_law 317 = .ok (.iaload, 1) := by decide +kernel
theorem d_La_law_318 : decode b_La_law 318 = .ok (.aload_n 0, 1) := by decide +kernel
theorem d_La_law_319 : decode b_La_law 319 = .ok (.iload 4, 2) := by decide +kernel
theorem d_La_law_321 : decode b_La_law 321 = .ok (.iconst 2, 1) := by decide +kernel
theorem d_La_law_322 : decode b_La_law 322 = .ok (.iadd, 1) := by decide +kernel
theorem d_La_law_323 : decode b_La_law 323 = .ok (.iaload, 1) := by decide +kernel
theorem d_La_law_324 : decode b_La_law 324 = .ok (.aload_n 0, 1) := by decide +kernel
theorem d_La_law_325 : decode b_La_law 325 = .ok (.iload 4, 2) := by decide +kernel
theorem d_La_law_327 : decode b_La_law 327 = .ok (.iconst 3, 1) := by decide +kernel
theorem d_La_law_328 : decode b_La_law 328 = .ok (.iadd, 1) := by decide +kernel
theorem d_La_law_329 : decode b_La_law 329 = .ok (.iaload, 1) := by decide +kernel
theorem d_La_law_330 : decode b_La_law 330 = .ok (.aload_n 0, 1) := by decide +kernel
theorem d_La_law_331 : decode b_La_law 331 = .ok (.iload 4, 2) := by decide +kernel
theorem d_La_law_333 : decode b_La_law 333 = .ok (.iconst 4, 1) := by decide +kernel
theorem d_La_law_334 : decode b_La_law 334 = .ok (.iadd, 1) := by decide +kernel
theorem d_La_law_335 : decode b_La_law 335 = .ok (.iaload, 1) := by decide +kernel
theorem d_La_law_336 : decode b_La_law 336 = .ok (.invokevirtual 62, 3) := by decide +kernel
theorem d_La_law_339 : decode b_La_law 339 = .ok (.goto 123, 3) := by decide +kernel
theorem d_La_law_342 : decode b_La_law 342 = .ok (.aload_n 1, 1) := by decide +kernel
theorem d_La_law_343 : decode b_La_law 343 = .ok (.invokevirtual 63, 3) := by decide +kernel
theorem d_La_law_346 : decode b_La_law 346 = .ok (.pop, 1) := by decide +kernel
theorem d_La_law_347 : decode b_La_law 347 = .ok (.aload_n 2, 1) := by decide +kernel
theorem d_La_law_348 : decode b_La_law 348 = .ok (.invokevirtual 66, 3) := by decide +kernel
theorem d_La_law_351 : decode b_La_law 351 = .ok (.pop, 1) := by decide +kernel
theorem d_La_law_352 : decode b_La_law 352 = .ok (.goto 110, 3) := by decide +kernel
theorem d_La_law_355 : decode b_La_law 355 = .ok (.aload_n 1, 1) := by decide +kernel
theorem d_La_law_356 : decode b_La_law 356 = .ok (.aload_n 0, 1) := by decide +kernel
theorem d_La_law_357 : decode b_La_law 357 = .ok (.iload 4, 2) := by decide +kernel
theorem d_La_law_359 : decode b_La_law 359 = .ok (.iconst 1, 1) := by decide +kernel
theorem d_La_law_360 : decode b_La_law 360 = .ok (.iadd, 1) := by decide +kernel
theorem d_La_law_361 : decode b_La_law 361 = .ok (.iaload, 1) := by decide +kernel
theorem d_La_law_362 : decode b_La_law 362 = .ok (.aload_n 3, 1) := by decide +kernel
theorem d_La_law_363 : decode b_La_law 363 = .ok (.invokestatic 67, 3) := by decide +kernel
theorem d_La_law_366 : decode b_La_law 366 = .ok (.istore 5, 2) := by decide +kernel
theorem d_La_law_368 : decode b_La_law 368 = .ok (.aload_n 2, 1) := by decide +kernel
theorem d_La_law_369 : decode b_La_law 369 = .ok (.aload_n 0, 1) := by decide +kernel
theorem d_La_law_370 : decode b_La_law 370 = .ok (.iload 4, 2) := by decide +kernel
theorem d_La_law_372 : decode b_La_law 372 = .ok (.iconst 1, 1) := by decide +kernel
theorem d_La_law_373 : decode b_La_law 373 = .ok (.iadd, 1) := by decide +kernel
theorem d_La_law_374 : decode b_La_law 374 = .ok (.iaload, 1) := by decide +kernel
theorem d_La_law_375 : decode b_La_law 375 = .ok (.invokevirtual 69, 3) := by decide +kernel
theorem d_La_law_378 : decode b_La_law 378 = .ok (.istore 6, 2) := by decide +kernel
theorem d_La_law_380 : decode b_La_law 380 = .ok (.goto 82, 3) := by decide +kernel
theorem d_La_law_383 : decode b_La_law 383 = .ok (.aload_n 1, 1) := by decide +kernel
theorem d_La_law_384 : decode b_La_law 384 = .ok (.invokevirtual 70, 3) := by decide +kernel
theorem d_La_law_387 : decode b_La_law 387 = .ok (.pop, 1) := by decide +kernel
theorem d_La_law_388 : decode b_La_law 388 = .ok (.aload_n 2, 1) := by decide +kernel
theorem d_La_law_389 : decode b_La_law 389 = .ok (.invokevirtual 73, 3) := by decide +kernel
theorem d_La_law_392 : decode b_La_law 392 = .ok (.pop, 1) := by decide +kernel
theorem d_La_law_393 : decode b_La_law 393 = .ok (.goto 69, 3) := by decide +kernel
theorem d_La_law_396 : decode b_La_law 396 = .ok (.aload_n 1, 1) := by decide +kernel
theorem d_La_law_397 : decode b_La_law 397 = .ok (.aload_n 0, 1) := by decide +kernel
theorem d_La_law_398 : decode b_La_law 398 = .ok (.iload 4, 2) := by decide +kernel
theorem d_La_law_400 : decode b_La_law 400 = .ok (.iconst 1, 1) := by decide +kernel
theorem d_La_law_401 : decode b_La_law 401 = .ok (.iadd, 1) := by decide +kernel
theorem d_La_law_402 : decode b_La_law 402 = .ok (.iaload, 1) := by decide +kernel
theorem d_La_law_403 : decode b_La_law 403 = .ok (.invokevirtual 74, 3) := by decide +kernel
theorem d_La_law_406 : decode b_La_law 406 = .ok (.aload_n 2, 1) := by decide +kernel
theorem d_La_law_407 : decode b_La_law 407 = .ok (.aload_n 0, 1) := by decide +kernel
theorem d_La_law_408 : decode b_La_law 408 = .ok (.iload 4, 2) := by decide +kernel
theorem d_La_law_410 : decode b_La_law 410 = .ok (.iconst 1, 1) := by decide +kernel
theorem d_La_law_411 : decode b_La_law 411 = .ok (.iadd, 1) := by decide +kernel
theorem d_La_law_412 : decode b_La_law 412 = .ok (.iaload, 1) := by decide +kernel
theorem d_La_law_413 : decode b_La_law 413 = .ok (.invokevirtual 77, 3) := by decide +kernel
theorem d_La_law_416 : decode b_La_law 416 = .ok (.if_icmp .eq 46, 3) := by decide +kernel
theorem d_La_law_419 : decode b_La_law 419 = .ok (.iconst 0, 1) := by decide +kernel
theorem d_La_law_420 : decode b_La_law 420 = .ok (.ireturn, 1) := by decide +kernel
theorem d_La_law_421 : decode b_La_law 421 = .ok (.aload_n 1, 1) := by decide +kernel
theorem d_La_law_422 : decode b_La_law 422 = .ok (.aload_n 0, 1) := by decide +kernel
theorem d_La_law_423 : decode b_La_law 423 = .ok (.iload 4, 2) := by decide +kernel
theorem d_La_law_425 : decode b_La_law 425 = .ok (.iconst 1, 1) := by decide +kernel
theorem d_La_law_426 : decode b_La_law 426 = .ok (.iadd, 1) := by decide +kernel
theorem d_La_law_427 : decode b_La_law 427 = .ok (.iaload, 1) := by decide +kernel
theorem d_La_law_428 : decode b_La_law 428 = .ok (.invokevirtual 78, 3) := by decide +kernel
theorem d_La_law_431 : decode b_La_law 431 = .ok (.pop, 1) := by decide +kernel
theorem d_La_law_432 : decode b_La_law 432 = .ok (.aload_n 2, 1) := by decide +kernel
theorem d_La_law_433 : decode b_La_law 433 = .ok (.aload_n 0, 1) := by decide +kernel
theorem d_La_law_434 : decode b_La_law 434 = .ok (.iload 4, 2) := by decide +kernel
theorem d_La_law_436 : decode b_La_law 436 = .ok (.iconst 1, 1) := by decide +kernel
theorem d_La_law_437 : decode b_La_law 437 = .ok (.iadd, 1) := by decide +kernel
theorem d_La_law_438 : decode b_La_law 438 = .ok (.iaload, 1) := by decide +kernel
theorem d_La_law_439 : decode b_La_law 439 = .ok (.invokevirtual 81, 3) := by decide +kernel
theorem d_La_law_442 : decode b_La_law 442 = .ok (.pop, 1) := by decide +kernel
theorem d_La_law_443 : decode b_La_law 443 = .ok (.goto 19, 3) := by decide +kernel
theorem d_La_law_446 : decode b_La_law 446 = .ok (.aload_n 1, 1) := by decide +kernel
theorem d_La_law_447 : decode b_La_law 447 = .ok (.aload_n 3, 1) := by decide +kernel
theorem d_La_law_448 : decode b_La_law 448 = .ok (.invokestatic 82, 3) := by decide +kernel
theorem d_La_law_451 : decode b_La_law 451 = .ok (.istore 5, 2) := by decide +kernel
theorem d_La_law_453 : decode b_La_law 453 = .ok (.aload_n 2, 1) := by decide +kernel
theorem d_La_law_454 : decode b_La_law 454 = .ok (.invokevirtual 85, 3) := by decide +kernel
theorem d_La_law_457 : decode b_La_law 457 = .ok (.istore 6, 2) := by decide +kernel
theorem d_La_law_459 : decode b_La_law 459 = .ok (.goto 3, 3) := by decide +kernel
theorem d_La_law_462 : decode b_La_law 462 = .ok (.iinc 4 6, 3) := by decide +kernel
theorem d_La_law_465 : decode b_La_law 465 = .ok (.goto (-442), 3) := by decide +kernel
theorem d_La_law_468 : decode b_La_law 468 = .ok (.iconst 1, 1) := by decide +kernel
theorem d_La_law_469 : decode b_La_law 469 = .ok (.ireturn, 1) := by decide +kernel
noncomputable def f_La_c0 (n0 : Nat) (xs : Nat → Int32) (L : Nat) (h0 : mH) (x4 : Int32) (a3 a2 a1 : Nat) : Option (Unit × mH) :=
  msl xs L (x4 + 1) fun v1 =>
  msl xs L (x4 + 2) fun v2 =>
  msl xs L (x4 + 3) fun v3 =>
  msl xs L (x4 + 4) fun v4 =>
  msl xs L (x4 + 5) fun v5 =>
  mis h0 a1 0 <|
  mcl (f_SF_feed n0 h0 a1 v1 v2 v3 v4 v5) fun v7 h8 =>
  msl xs L (x4 + 1) fun v9 =>
  msl xs L (x4 + 2) fun v10 =>
  msl xs L (x4 + 3) fun v11 =>
  msl xs L (x4 + 4) fun v12 =>
  msl xs L (x4 + 5) fun v13 =>
  mis h8 a2 10 <|
  mcl (f_Mo_feed n0 h8 a2 v9 v10 v11 v12 v13) fun v15 h16 =>
  some ((), h16)
set_option maxHeartbeats 4000000 in
set_option maxRecDepth 100000 in
theorem lc_0 {X : mX} {ad : Nat → Nat} {ln : Launch} (hln : ln.stackTraces = false) (O : mO X ad R_La b_La_law 7 room_1 ln) {L : Nat} {xs : Nat → Int32} (hXs : mScr X ad L xs) (hTX : mTX X) {cs ss : Nat} (hq0 : cs ≤ room_1.cells ∧ ss ≤ room_1.slots) (hq1 : cs + 1 ≤ room_1.cells ∧ ss + 6 ≤ room_1.slots) (n0 : Nat) (h0 : mH) (x4 : Int32) (a3 a2 a1 : Nat) (u : Unit) (h' : mH) (hf : f_La_c0 n0 xs L h0 x4 a3 a2 a1 = some (u, h')) (kk : mAW X ad (cs + 1) (ss + 6) 462 [(4, .int x4), (3, .ref a3), (2, .ref a2), (1, .ref a1), (0, .ref 20000)] [] h') : mAW X ad cs ss 100 [(4, .int x4), (3, .ref a3), (2, .ref a2), (1, .ref a1), (0, .ref 20000)] [] h0 := by
  unfold f_La_c0 at hf
  refine ax_aload_n O d_La_law_100 rfl 3 rfl ?_
  refine ax_aload_n O d_La_law_101 rfl 4 rfl ?_
  refine ax_iload O d_La_law_102 0 rfl ?_
  refine ax_iconst (v := 1) O d_La_law_104 (by decide) ?_
  refine ax_iadd O d_La_law_105 ?_
  obtain ⟨v1, iv1, kv1, hf⟩ := msl_some hf
  refine ax_sld O hXs iv1 kv1 d_La_law_106 ?_
  refine ax_aload_n O d_La_law_107 rfl 4 rfl ?_
  refine ax_iload O d_La_law_108 0 rfl ?_
  refine ax_iconst (v := 2) O d_La_law_110 (by decide) ?_
  refine ax_iadd O d_La_law_111 ?_
  obtain ⟨v2, iv2, kv2, hf⟩ := msl_some hf
  refine ax_sld O hXs iv2 kv2 d_La_law_112 ?_
  refine ax_aload_n O d_La_law_113 rfl 4 rfl ?_
  refine ax_iload O d_La_law_114 0 rfl ?_
  refine ax_iconst (v := 3) O d_La_law_116 (by decide) ?_
  refine ax_iadd O d_La_law_117 ?_
  obtain ⟨v3, iv3, kv3, hf⟩ := msl_some hf
  refine ax_sld O hXs iv3 kv3 d_La_law_118 ?_
  refine ax_aload_n O d_La_law_119 rfl 4 rfl ?_
  refine ax_iload O d_La_law_120 0 rfl ?_
  refine ax_iconst (v := 4) O d_La_law_122 (by decide) ?_
  refine ax_iadd O d_La_law_123 ?_
  obtain ⟨v4, iv4, kv4, hf⟩ := msl_some hf
  refine ax_sld O hXs iv4 kv4 d_La_law_124 ?_
  refine ax_aload_n O d_La_law_125 rfl 4 rfl ?_
  refine ax_iload O d_La_law_126 0 rfl ?_
  refine ax_iconst (v := 5) O d_La_law_128 (by decide) ?_
  refine ax_iadd O d_La_law_129 ?_
  obtain ⟨v5, iv5, kv5, hf⟩ := msl_some hf
  refine ax_sld O hXs iv5 kv5 d_La_law_130 ?_
  obtain ⟨fh8, ch8, hf⟩ := mis_some hf
  obtain ⟨v7, h8, mh8, hf⟩ := mcl_some hf
  refine ax_callV (As := [.int v1, .int v2, .int v3, .int v4, .int v5]) (rest := []) O cw_SF_feed (q := (R_SF, T_SF, 17)) rfl rfl in_SF_feed se_SF_feed lk_La_41 ch8 (c_SF_feed mh8) rfl ⟨rfl, rfl⟩ ⟨Nat.le_of_ble_eq_true rfl, Nat.le_of_ble_eq_true rfl⟩ hq0 (Nat.le_of_ble_eq_true rfl) d_La_law_131 ?_
  refine ax_pop O d_La_law_134 rfl ?_
  refine ax_aload_n O d_La_law_135 rfl 2 rfl ?_
  refine ax_aload_n O d_La_law_136 rfl 4 rfl ?_
  refine ax_iload O d_La_law_137 0 rfl ?_
  refine ax_iconst (v := 1) O d_La_law_139 (by decide) ?_
  refine ax_iadd O d_La_law_140 ?_
  obtain ⟨v9, iv9, kv9, hf⟩ := msl_some hf
  refine ax_sld O hXs iv9 kv9 d_La_law_141 ?_
  refine ax_aload_n O d_La_law_142 rfl 4 rfl ?_
  refine ax_iload O d_La_law_143 0 rfl ?_
  refine ax_iconst (v := 2) O d_La_law_145 (by decide) ?_
  refine ax_iadd O d_La_law_146 ?_
  obtain ⟨v10, iv10, kv10, hf⟩ := msl_some hf
  refine ax_sld O hXs iv10 kv10 d_La_law_147 ?_
  refine ax_aload_n O d_La_law_148 rfl 4 rfl ?_
  refine ax_iload O d_La_law_149 0 rfl ?_
  refine ax_iconst (v := 3) O d_La_law_151 (by decide) ?_
  refine ax_iadd O d_La_law_152 ?_
  obtain ⟨v11, iv11, kv11, hf⟩ := msl_some hf
  refine ax_sld O hXs iv11 kv11 d_La_law_153 ?_
  refine ax_aload_n O d_La_law_154 rfl 4 rfl ?_
  refine ax_iload O d_La_law_155 0 rfl ?_
  refine ax_iconst (v := 4) O d_La_law_157 (by decide) ?_
  refine ax_iadd O d_La_law_158 ?_
  obtain ⟨v12, iv12, kv12, hf⟩ := msl_some hf
  refine ax_sld O hXs iv12 kv12 d_La_law_159 ?_
  refine ax_aload_n O d_La_law_160 rfl 4 rfl ?_
  refine ax_iload O d_La_law_161 0 rfl ?_
  refine ax_iconst (v := 5) O d_La_law_163 (by decide) ?_
  refine ax_iadd O d_La_law_164 ?_
  obtain ⟨v13, iv13, kv13, hf⟩ := msl_some hf
  refine ax_sld O hXs iv13 kv13 d_La_law_165 ?_
  obtain ⟨fh16, ch16, hf⟩ := mis_some hf
  obtain ⟨v15, h16, mh16, hf⟩ := mcl_some hf
  refine ax_callV (As := [.int v9, .int v10, .int v11, .int v12, .int v13]) (rest := []) O cw_Mo_feed (q := (R_Mo, T_Mo, 31)) rfl rfl in_Mo_feed se_Mo_feed lk_La_45 ch16 (c_Mo_feed mh16) rfl ⟨rfl, rfl⟩ ⟨Nat.le_of_ble_eq_true rfl, Nat.le_of_ble_eq_true rfl⟩ hq0 (Nat.le_of_ble_eq_true rfl) d_La_law_166 ?_
  refine ax_pop O d_La_law_169 rfl ?_
  refine ax_goto (tgt := 462) O d_La_law_170 (by decide) ?_
  cases hf
  refine ax_widen (cs' := cs + 1) (ss' := ss + 6) (Nat.le_add_right _ _) (Nat.le_add_right _ _) ?_
  exact kk

noncomputable def f_La_c1 (n0 : Nat) (xs : Nat → Int32) (L : Nat) (h0 : mH) (x4 : Int32) (a3 a2 a1 : Nat) : Option (Unit × mH) :=
  msl xs L (x4 + 1) fun v1 =>
  msl xs L (x4 + 2) fun v2 =>
  mcl (f_La_put n0 h0 a1 v1 v2 a3) fun v3 h4 =>
  msl xs L (x4 + 1) fun v5 =>
  msl xs L (x4 + 2) fun v6 =>
  mis h4 a2 10 <|
  mcl (f_Mo_put n0 h4 a2 v5 v6) fun v8 h9 =>
  some ((), h9)
set_option maxHeartbeats 4000000 in
set_option maxRecDepth 100000 in
theorem lc_1 {X : mX} {ad : Nat → Nat} {ln : Launch} (hln : ln.stackTraces = false) (O : mO X ad R_La b_La_law 7 room_1 ln) {L : Nat} {xs : Nat → Int32} (hXs : mScr X ad L xs) (hTX : mTX X) {cs ss : Nat} (hq0 : cs ≤ room_1.cells ∧ ss ≤ room_1.slots) (hq1 : cs + 1 ≤ room_1.cells ∧ ss + 6 ≤ room_1.slots) (n0 : Nat) (h0 : mH) (x4 : Int32) (a3 a2 a1 : Nat) (u : Unit) (h' : mH) (hf : f_La_c1 n0 xs L h0 x4 a3 a2 a1 = some (u, h')) (kk : mAW X ad (cs + 1) (ss + 6) 462 [(4, .int x4), (3, .ref a3), (2, .ref a2), (1, .ref a1), (0, .ref 20000)] [] h') : mAW X ad cs ss 173 [(4, .int x4), (3, .ref a3), (2, .ref a2), (1, .ref a1), (0, .ref 20000)] [] h0 := by
  unfold f_La_c1 at hf
  refine ax_aload_n O d_La_law_173 rfl 3 rfl ?_
  refine ax_aload_n O d_La_law_174 rfl 4 rfl ?_
  refine ax_iload O d_La_law_175 0 rfl ?_
  refine ax_iconst (v := 1) O d_La_law_177 (by decide) ?_
  refine ax_iadd O d_La_law_178 ?_
  obtain ⟨v1, iv1, kv1, hf⟩ := msl_some hf
  refine ax_sld O hXs iv1 kv1 d_La_law_179 ?_
  refine ax_aload_n O d_La_law_180 rfl 4 rfl ?_
  refine ax_iload O d_La_law_181 0 rfl ?_
  refine ax_iconst (v := 2) O d_La_law_183 (by decide) ?_
  refine ax_iadd O d_La_law_184 ?_
  obtain ⟨v2, iv2, kv2, hf⟩ := msl_some hf
  refine ax_sld O hXs iv2 kv2 d_La_law_185 ?_
  refine ax_aload_n O d_La_law_186 rfl 1 rfl ?_
  obtain ⟨v3, h4, mh4, hf⟩ := mcl_some hf
  refine ax_callW (As := [.ref a1, .int v1, .int v2, .ref a3]) (rest := []) O hTX cw_La_put st_La_put wd_68 (c_La_put hln mh4) rfl ⟨rfl, rfl⟩ ⟨Nat.le_of_ble_eq_true rfl, Nat.le_of_ble_eq_true rfl⟩ hq1 (Nat.le_of_ble_eq_true rfl) d_La_law_187 ?_
  refine ax_istore (lv' := [(5, .int v3), (4, .int x4), (3, .ref a3), (2, .ref a2), (1, .ref a1), (0, .ref 20000)]) O d_La_law_190 (by decide) rfl ?_
  refine ax_aload_n O d_La_law_192 rfl 3 rfl ?_
  refine ax_aload_n O d_La_law_193 rfl 5 rfl ?_
  refine ax_iload O d_La_law_194 1 rfl ?_
  refine ax_iconst (v := 1) O d_La_law_196 (by decide) ?_
  refine ax_iadd O d_La_law_197 ?_
  obtain ⟨v5, iv5, kv5, hf⟩ := msl_some hf
  refine ax_sld O hXs iv5 kv5 d_La_law_198 ?_
  refine ax_aload_n O d_La_law_199 rfl 5 rfl ?_
  refine ax_iload O d_La_law_200 1 rfl ?_
  refine ax_iconst (v := 2) O d_La_law_202 (by decide) ?_
  refine ax_iadd O d_La_law_203 ?_
  obtain ⟨v6, iv6, kv6, hf⟩ := msl_some hf
  refine ax_sld O hXs iv6 kv6 d_La_law_204 ?_
  obtain ⟨fh9, ch9, hf⟩ := mis_some hf
  obtain ⟨v8, h9, mh9, hf⟩ := mcl_some hf
  refine ax_callV (As := [.int v5, .int v6]) (rest := []) O cw_Mo_put (q := (R_Mo, T_Mo, 31)) rfl rfl in_Mo_put se_Mo_put lk_La_51 ch9 (c_Mo_put mh9) rfl ⟨rfl, rfl⟩ ⟨Nat.le_of_ble_eq_true rfl, Nat.le_of_ble_eq_true rfl⟩ hq1 (Nat.le_of_ble_eq_true rfl) d_La_law_205 ?_
  refine ax_istore (lv' := [(6, .int v8), (5, .int v3), (4, .int x4), (3, .ref a3), (2, .ref a2), (1, .ref a1), (0, .ref 20000)]) O d_La_law_208 (by decide) rfl ?_
  refine ax_goto (tgt := 462) O d_La_law_210 (by decide) ?_
  cases hf
  refine ax_sub [2, 3, 4, 5, 6] rfl ?_
  exact kk

noncomputable def f_La_c2 (n0 : Nat) (xs : Nat → Int32) (L : Nat) (h0 : mH) (x4 : Int32) (a3 a2 a1 : Nat) : Option (Unit × mH) :=
  msl xs L (x4 + 1) fun v1 =>
  mcl (f_La_cut n0 h0 a1 v1 a3) fun v2 h3 =>
  msl xs L (x4 + 1) fun v4 =>
  mis h3 a2 10 <|
  mcl (f_Mo_cut n0 h3 a2 v4) fun v6 h7 =>
  some ((), h7)
set_option maxHeartbeats 4000000 in
set_option maxRecDepth 100000 in
theorem lc_2 {X : mX} {ad : Nat → Nat} {ln : Launch} (hln : ln.stackTraces = false) (O : mO X ad R_La b_La_law 7 room_1 ln) {L : Nat} {xs : Nat → Int32} (hXs : mScr X ad L xs) (hTX : mTX X) {cs ss : Nat} (hq0 : cs ≤ room_1.cells ∧ ss ≤ room_1.slots) (hq1 : cs + 1 ≤ room_1.cells ∧ ss + 6 ≤ room_1.slots) (n0 : Nat) (h0 : mH) (x4 : Int32) (a3 a2 a1 : Nat) (u : Unit) (h' : mH) (hf : f_La_c2 n0 xs L h0 x4 a3 a2 a1 = some (u, h')) (kk : mAW X ad (cs + 1) (ss + 6) 462 [(4, .int x4), (3, .ref a3), (2, .ref a2), (1, .ref a1), (0, .ref 20000)] [] h') : mAW X ad cs ss 213 [(4, .int x4), (3, .ref a3), (2, .ref a2), (1, .ref a1), (0, .ref 20000)] [] h0 := by
  unfold f_La_c2 at hf
  refine ax_aload_n O d_La_law_213 rfl 3 rfl ?_
  refine ax_aload_n O d_La_law_214 rfl 4 rfl ?_
  refine ax_iload O d_La_law_215 0 rfl ?_
  refine ax_iconst (v := 1) O d_La_law_217 (by decide) ?_
  refine ax_iadd O d_La_law_218 ?_
  obtain ⟨v1, iv1, kv1, hf⟩ := msl_some hf
  refine ax_sld O hXs iv1 kv1 d_La_law_219 ?_
  refine ax_aload_n O d_La_law_220 rfl 1 rfl ?_
  obtain ⟨v2, h3, mh3, hf⟩ := mcl_some hf
  refine ax_callW (As := [.ref a1, .int v1, .ref a3]) (rest := []) O hTX cw_La_cut st_La_cut wd_69 (c_La_cut hln mh3) rfl ⟨rfl, rfl⟩ ⟨Nat.le_of_ble_eq_true rfl, Nat.le_of_ble_eq_true rfl⟩ hq1 (Nat.le_of_ble_eq_true rfl) d_La_law_221 ?_
  refine ax_istore (lv' := [(5, .int v2), (4, .int x4), (3, .ref a3), (2, .ref a2), (1, .ref a1), (0, .ref 20000)]) O d_La_law_224 (by decide) rfl ?_
  refine ax_aload_n O d_La_law_226 rfl 3 rfl ?_
  refine ax_aload_n O d_La_law_227 rfl 5 rfl ?_
  refine ax_iload O d_La_law_228 1 rfl ?_
  refine ax_iconst (v := 1) O d_La_law_230 (by decide) ?_
  refine ax_iadd O d_La_law_231 ?_
  obtain ⟨v4, iv4, kv4, hf⟩ := msl_some hf
  refine ax_sld O hXs iv4 kv4 d_La_law_232 ?_
  obtain ⟨fh7, ch7, hf⟩ := mis_some hf
  obtain ⟨v6, h7, mh7, hf⟩ := mcl_some hf
  refine ax_callV (As := [.int v4]) (rest := []) O cw_Mo_cut (q := (R_Mo, T_Mo, 31)) rfl rfl in_Mo_cut se_Mo_cut lk_La_55 ch7 (c_Mo_cut mh7) rfl ⟨rfl, rfl⟩ ⟨Nat.le_of_ble_eq_true rfl, Nat.le_of_ble_eq_true rfl⟩ hq1 (Nat.le_of_ble_eq_true rfl) d_La_law_233 ?_
  refine ax_istore (lv' := [(6, .int v6), (5, .int v2), (4, .int x4), (3, .ref a3), (2, .ref a2), (1, .ref a1), (0, .ref 20000)]) O d_La_law_236 (by decide) rfl ?_
  refine ax_goto (tgt := 462) O d_La_law_238 (by decide) ?_
  cases hf
  refine ax_sub [2, 3, 4, 5, 6] rfl ?_
  exact kk

noncomputable def f_La_c3 (n0 : Nat) (xs : Nat → Int32) (L : Nat) (h0 : mH) (x4 : Int32) (a3 a2 a1 : Nat) : Option (Unit × mH) :=
  msl xs L (x4 + 1) fun v1 =>
  msl xs L (x4 + 2) fun v2 =>
  mcl (f_La_filter n0 h0 a1 v1 v2 a3) fun v3 h4 =>
  msl xs L (x4 + 1) fun v5 =>
  msl xs L (x4 + 2) fun v6 =>
  mis h4 a2 10 <|
  mcl (f_Mo_filter n0 h4 a2 v5 v6) fun v8 h9 =>
  some ((), h9)
set_option maxHeartbeats 4000000 in
set_option maxRecDepth 100000 in
theorem lc_3 {X : mX} {ad : Nat → Nat} {ln : Launch} (hln : ln.stackTraces = false) (O : mO X ad R_La b_La_law 7 room_1 ln) {L : Nat} {xs : Nat → Int32} (hXs : mScr X ad L xs) (hTX : mTX X) {cs ss : Nat} (hq0 : cs ≤ room_1.cells ∧ ss ≤ room_1.slots) (hq1 : cs + 1 ≤ room_1.cells ∧ ss + 6 ≤ room_1.slots) (n0 : Nat) (h0 : mH) (x4 : Int32) (a3 a2 a1 : Nat) (u : Unit) (h' : mH) (hf : f_La_c3 n0 xs L h0 x4 a3 a2 a1 = some (u, h')) (kk : mAW X ad (cs + 1) (ss + 6) 462 [(4, .int x4), (3, .ref a3), (2, .ref a2), (1, .ref a1), (0, .ref 20000)] [] h') : mAW X ad cs ss 241 [(4, .int x4), (3, .ref a3), (2, .ref a2), (1, .ref a1), (0, .ref 20000)] [] h0 := by
  unfold f_La_c3 at hf
  refine ax_aload_n O d_La_law_241 rfl 3 rfl ?_
  refine ax_aload_n O d_La_law_242 rfl 4 rfl ?_
  refine ax_iload O d_La_law_243 0 rfl ?_
  refine ax_iconst (v := 1) O d_La_law_245 (by decide) ?_
  refine ax_iadd O d_La_law_246 ?_
  obtain ⟨v1, iv1, kv1, hf⟩ := msl_some hf
  refine ax_sld O hXs iv1 kv1 d_La_law_247 ?_
  refine ax_aload_n O d_La_law_248 rfl 4 rfl ?_
  refine ax_iload O d_La_law_249 0 rfl ?_
  refine ax_iconst (v := 2) O d_La_law_251 (by decide) ?_
  refine ax_iadd O d_La_law_252 ?_
  obtain ⟨v2, iv2, kv2, hf⟩ := msl_some hf
  refine ax_sld O hXs iv2 kv2 d_La_law_253 ?_
  refine ax_aload_n O d_La_law_254 rfl 1 rfl ?_
  obtain ⟨v3, h4, mh4, hf⟩ := mcl_some hf
  refine ax_callW (As := [.ref a1, .int v1, .int v2, .ref a3]) (rest := []) O hTX cw_La_filter st_La_filter wd_70 (c_La_filter hln mh4) rfl ⟨rfl, rfl⟩ ⟨Nat.le_of_ble_eq_true rfl, Nat.le_of_ble_eq_true rfl⟩ hq1 (Nat.le_of_ble_eq_true rfl) d_La_law_255 ?_
  refine ax_istore (lv' := [(5, .int v3), (4, .int x4), (3, .ref a3), (2, .ref a2), (1, .ref a1), (0, .ref 20000)]) O d_La_law_258 (by decide) rfl ?_
  refine ax_aload_n O d_La_law_260 rfl 3 rfl ?_
  refine ax_aload_n O d_La_law_261 rfl 5 rfl ?_
  refine ax_iload O d_La_law_262 1 rfl ?_
  refine ax_iconst (v := 1) O d_La_law_264 (by decide) ?_
  refine ax_iadd O d_La_law_265 ?_
  obtain ⟨v5, iv5, kv5, hf⟩ := msl_some hf
  refine ax_sld O hXs iv5 kv5 d_La_law_266 ?_
  refine ax_aload_n O d_La_law_267 rfl 5 rfl ?_
  refine ax_iload O d_La_law_268 1 rfl ?_
  refine ax_iconst (v := 2) O d_La_law_270 (by decide) ?_
  refine ax_iadd O d_La_law_271 ?_
  obtain ⟨v6, iv6, kv6, hf⟩ := msl_some hf
  refine ax_sld O hXs iv6 kv6 d_La_law_272 ?_
  obtain ⟨fh9, ch9, hf⟩ := mis_some hf
  obtain ⟨v8, h9, mh9, hf⟩ := mcl_some hf
  refine ax_callV (As := [.int v5, .int v6]) (rest := []) O cw_Mo_filter (q := (R_Mo, T_Mo, 31)) rfl rfl in_Mo_filter se_Mo_filter lk_La_58 ch9 (c_Mo_filter mh9) rfl ⟨rfl, rfl⟩ ⟨Nat.le_of_ble_eq_true rfl, Nat.le_of_ble_eq_true rfl⟩ hq1 (Nat.le_of_ble_eq_true rfl) d_La_law_273 ?_
  refine ax_istore (lv' := [(6, .int v8), (5, .int v3), (4, .int x4), (3, .ref a3), (2, .ref a2), (1, .ref a1), (0, .ref 20000)]) O d_La_law_276 (by decide) rfl ?_
  refine ax_goto (tgt := 462) O d_La_law_278 (by decide) ?_
  cases hf
  refine ax_sub [2, 3, 4, 5, 6] rfl ?_
  exact kk

noncomputable def f_La_c4 (n0 : Nat) (xs : Nat → Int32) (L : Nat) (h0 : mH) (x4 : Int32) (a3 a2 a1 : Nat) : Option (Unit × mH) :=
  msl xs L (x4 + 1) fun v1 =>
  msl xs L (x4 + 2) fun v2 =>
  msl xs L (x4 + 3) fun v3 =>
  msl xs L (x4 + 4) fun v4 =>
  mcl (f_La_predict n0 h0 a1 v1 v2 v3 v4) fun v5 h6 =>
  msl xs L (x4 + 1) fun v7 =>
  msl xs L (x4 + 2) fun v8 =>
  msl xs L (x4 + 3) fun v9 =>
  msl xs L (x4 + 4) fun v10 =>
  mis h6 a2 10 <|
  mcl (f_Mo_predict n0 h6 a2 v7 v8 v9 v10) fun _ h13 =>
  some ((), h13)
set_option maxHeartbeats 4000000 in
set_option maxRecDepth 100000 in
theorem lc_4 {X : mX} {ad : Nat → Nat} {ln : Launch} (hln : ln.stackTraces = false) (O : mO X ad R_La b_La_law 7 room_1 ln) {L : Nat} {xs : Nat → Int32} (hXs : mScr X ad L xs) (hTX : mTX X) {cs ss : Nat} (hq0 : cs ≤ room_1.cells ∧ ss ≤ room_1.slots) (hq1 : cs + 1 ≤ room_1.cells ∧ ss + 6 ≤ room_1.slots) (n0 : Nat) (h0 : mH) (x4 : Int32) (a3 a2 a1 : Nat) (u : Unit) (h' : mH) (hf : f_La_c4 n0 xs L h0 x4 a3 a2 a1 = some (u, h')) (kk : mAW X ad (cs + 1) (ss + 6) 462 [(4, .int x4), (3, .ref a3), (2, .ref a2), (1, .ref a1), (0, .ref 20000)] [] h') : mAW X ad cs ss 281 [(4, .int x4), (3, .ref a3), (2, .ref a2), (1, .ref a1), (0, .ref 20000)] [] h0 := by
  unfold f_La_c4 at hf
  refine ax_aload_n O d_La_law_281 rfl 3 rfl ?_
  refine ax_aload_n O d_La_law_282 rfl 4 rfl ?_
  refine ax_iload O d_La_law_283 0 rfl ?_
  refine ax_iconst (v := 1) O d_La_law_285 (by decide) ?_
  refine ax_iadd O d_La_law_286 ?_
  obtain ⟨v1, iv1, kv1, hf⟩ := msl_some hf
  refine ax_sld O hXs iv1 kv1 d_La_law_287 ?_
  refine ax_aload_n O d_La_law_288 rfl 4 rfl ?_
  refine ax_iload O d_La_law_289 0 rfl ?_
  refine ax_iconst (v := 2) O d_La_law_291 (by decide) ?_
  refine ax_iadd O d_La_law_292 ?_
  obtain ⟨v2, iv2, kv2, hf⟩ := msl_some hf
  refine ax_sld O hXs iv2 kv2 d_La_law_293 ?_
  refine ax_aload_n O d_La_law_294 rfl 4 rfl ?_
  refine ax_iload O d_La_law_295 0 rfl ?_
  refine ax_iconst (v := 3) O d_La_law_297 (by decide) ?_
  refine ax_iadd O d_La_law_298 ?_
  obtain ⟨v3, iv3, kv3, hf⟩ := msl_some hf
  refine ax_sld O hXs iv3 kv3 d_La_law_299 ?_
  refine ax_aload_n O d_La_law_300 rfl 4 rfl ?_
  refine ax_iload O d_La_law_301 0 rfl ?_
  refine ax_iconst (v := 4) O d_La_law_303 (by decide) ?_
  refine ax_iadd O d_La_law_304 ?_
  obtain ⟨v4, iv4, kv4, hf⟩ := msl_some hf
  refine ax_sld O hXs iv4 kv4 d_La_law_305 ?_
  obtain ⟨v5, h6, mh6, hf⟩ := mcl_some hf
  refine ax_callW (As := [.ref a1, .int v1, .int v2, .int v3, .int v4]) (rest := []) O hTX cw_La_predict st_La_predict wd_71 (c_La_predict hln mh6) rfl ⟨rfl, rfl⟩ ⟨Nat.le_of_ble_eq_true rfl, Nat.le_of_ble_eq_true rfl⟩ hq1 (Nat.le_of_ble_eq_true rfl) d_La_law_306 ?_
  refine ax_istore (lv' := [(5, .int v5), (4, .int x4), (3, .ref a3), (2, .ref a2), (1, .ref a1), (0, .ref 20000)]) O d_La_law_309 (by decide) rfl ?_
  refine ax_aload_n O d_La_law_311 rfl 3 rfl ?_
  refine ax_aload_n O d_La_law_312 rfl 5 rfl ?_
  refine ax_iload O d_La_law_313 1 rfl ?_
  refine ax_iconst (v := 1) O d_La_law_315 (by decide) ?_
  refine ax_iadd O d_La_law_316 ?_
  obtain ⟨v7, iv7, kv7, hf⟩ := msl_some hf
  refine ax_sld O hXs iv7 kv7 d_La_law_317 ?_
  refine ax_aload_n O d_La_law_318 rfl 5 rfl ?_
  refine ax_iload O d_La_law_319 1 rfl ?_
  refine ax_iconst (v := 2) O d_La_law_321 (by decide) ?_
  refine ax_iadd O d_La_law_322 ?_
  obtain ⟨v8, iv8, kv8, hf⟩ := msl_some hf
  refine ax_sld O hXs iv8 kv8 d_La_law_323 ?_
  refine ax_aload_n O d_La_law_324 rfl 5 rfl ?_
  refine ax_iload O d_La_law_325 1 rfl ?_
  refine ax_iconst (v := 3) O d_La_law_327 (by decide) ?_
  refine ax_iadd O d_La_law_328 ?_
  obtain ⟨v9, iv9, kv9, hf⟩ := msl_some hf
  refine ax_sld O hXs iv9 kv9 d_La_law_329 ?_
  refine ax_aload_n O d_La_law_330 rfl 5 rfl ?_
  refine ax_iload O d_La_law_331 1 rfl ?_
  refine ax_iconst (v := 4) O d_La_law_333 (by decide) ?_
  refine ax_iadd O d_La_law_334 ?_
  obtain ⟨v10, iv10, kv10, hf⟩ := msl_some hf
  refine ax_sld O hXs iv10 kv10 d_La_law_335 ?_
  obtain ⟨fh13, ch13, hf⟩ := mis_some hf
  obtain ⟨u14, h13, mh13, hf⟩ := mcl_some hf
  refine ax_callV (As := [.int v7, .int v8, .int v9, .int v10]) (rest := []) O cw_Mo_predict (q := (R_Mo, T_Mo, 31)) rfl rfl in_Mo_predict se_Mo_predict lk_La_62 ch13 (c_Mo_predict mh13) rfl ⟨rfl, rfl⟩ ⟨Nat.le_of_ble_eq_true rfl, Nat.le_of_ble_eq_true rfl⟩ hq1 (Nat.le_of_ble_eq_true rfl) d_La_law_336 ?_
  refine ax_goto (tgt := 462) O d_La_law_339 (by decide) ?_
  cases hf
  refine ax_sub [1, 2, 3, 4, 5] rfl ?_
  exact kk

noncomputable def f_La_c5 (n0 : Nat) (xs : Nat → Int32) (L : Nat) (h0 : mH) (x4 : Int32) (a3 a2 a1 : Nat) : Option (Unit × mH) :=
  mis h0 a1 0 <|
  mcl (f_SF_drop n0 h0 a1) fun v2 h3 =>
  mis h3 a2 10 <|
  mcl (f_Mo_drop n0 h3 a2) fun v5 h6 =>
  some ((), h6)
set_option maxHeartbeats 4000000 in
set_option maxRecDepth 100000 in
theorem lc_5 {X : mX} {ad : Nat → Nat} {ln : Launch} (hln : ln.stackTraces = false) (O : mO X ad R_La b_La_law 7 room_1 ln) {L : Nat} {xs : Nat → Int32} (hXs : mScr X ad L xs) (hTX : mTX X) {cs ss : Nat} (hq0 : cs ≤ room_1.cells ∧ ss ≤ room_1.slots) (hq1 : cs + 1 ≤ room_1.cells ∧ ss + 6 ≤ room_1.slots) (n0 : Nat) (h0 : mH) (x4 : Int32) (a3 a2 a1 : Nat) (u : Unit) (h' : mH) (hf : f_La_c5 n0 xs L h0 x4 a3 a2 a1 = some (u, h')) (kk : mAW X ad (cs + 1) (ss + 6) 462 [(4, .int x4), (3, .ref a3), (2, .ref a2), (1, .ref a1), (0, .ref 20000)] [] h') : mAW X ad cs ss 342 [(4, .int x4), (3, .ref a3), (2, .ref a2), (1, .ref a1), (0, .ref 20000)] [] h0 := by
  unfold f_La_c5 at hf
  refine ax_aload_n O d_La_law_342 rfl 3 rfl ?_
  obtain ⟨fh3, ch3, hf⟩ := mis_some hf
  obtain ⟨v2, h3, mh3, hf⟩ := mcl_some hf
  refine ax_callV (As := []) (rest := []) O cw_SF_drop (q := (R_SF, T_SF, 17)) rfl rfl in_SF_drop se_SF_drop lk_La_63 ch3 (c_SF_drop mh3) rfl ⟨rfl, rfl⟩ ⟨Nat.le_of_ble_eq_true rfl, Nat.le_of_ble_eq_true rfl⟩ hq0 (Nat.le_of_ble_eq_true rfl) d_La_law_343 ?_
  refine ax_pop O d_La_law_346 rfl ?_
  refine ax_aload_n O d_La_law_347 rfl 2 rfl ?_
  obtain ⟨fh6, ch6, hf⟩ := mis_some hf
  obtain ⟨v5, h6, mh6, hf⟩ := mcl_some hf
  refine ax_callV (As := []) (rest := []) O cw_Mo_drop (q := (R_Mo, T_Mo, 31)) rfl rfl in_Mo_drop se_Mo_drop lk_La_66 ch6 (c_Mo_drop mh6) rfl ⟨rfl, rfl⟩ ⟨Nat.le_of_ble_eq_true rfl, Nat.le_of_ble_eq_true rfl⟩ hq0 (Nat.le_of_ble_eq_true rfl) d_La_law_348 ?_
  refine ax_pop O d_La_law_351 rfl ?_
  refine ax_goto (tgt := 462) O d_La_law_352 (by decide) ?_
  cases hf
  refine ax_widen (cs' := cs + 1) (ss' := ss + 6) (Nat.le_add_right _ _) (Nat.le_add_right _ _) ?_
  exact kk

noncomputable def f_La_c6 (n0 : Nat) (xs : Nat → Int32) (L : Nat) (h0 : mH) (x4 : Int32) (a3 a2 a1 : Nat) : Option (Unit × mH) :=
  msl xs L (x4 + 1) fun v1 =>
  mcl (f_La_budget n0 h0 a1 v1 a3) fun v2 h3 =>
  msl xs L (x4 + 1) fun v4 =>
  mis h3 a2 10 <|
  mcl (f_Mo_budget n0 h3 a2 v4) fun v6 h7 =>
  some ((), h7)
set_option maxHeartbeats 4000000 in
set_option maxRecDepth 100000 in
theorem lc_6 {X : mX} {ad : Nat → Nat} {ln : Launch} (hln : ln.stackTraces = false) (O : mO X ad R_La b_La_law 7 room_1 ln) {L : Nat} {xs : Nat → Int32} (hXs : mScr X ad L xs) (hTX : mTX X) {cs ss : Nat} (hq0 : cs ≤ room_1.cells ∧ ss ≤ room_1.slots) (hq1 : cs + 1 ≤ room_1.cells ∧ ss + 6 ≤ room_1.slots) (n0 : Nat) (h0 : mH) (x4 : Int32) (a3 a2 a1 : Nat) (u : Unit) (h' : mH) (hf : f_La_c6 n0 xs L h0 x4 a3 a2 a1 = some (u, h')) (kk : mAW X ad (cs + 1) (ss + 6) 462 [(4, .int x4), (3, .ref a3), (2, .ref a2), (1, .ref a1), (0, .ref 20000)] [] h') : mAW X ad cs ss 355 [(4, .int x4), (3, .ref a3), (2, .ref a2), (1, .ref a1), (0, .ref 20000)] [] h0 := by
  unfold f_La_c6 at hf
  refine ax_aload_n O d_La_law_355 rfl 3 rfl ?_
  refine ax_aload_n O d_La_law_356 rfl 4 rfl ?_
  refine ax_iload O d_La_law_357 0 rfl ?_
  refine ax_iconst (v := 1) O d_La_law_359 (by decide) ?_
  refine ax_iadd O d_La_law_360 ?_
  obtain ⟨v1, iv1, kv1, hf⟩ := msl_some hf
  refine ax_sld O hXs iv1 kv1 d_La_law_361 ?_
  refine ax_aload_n O d_La_law_362 rfl 1 rfl ?_
  obtain ⟨v2, h3, mh3, hf⟩ := mcl_some hf
  refine ax_callW (As := [.ref a1, .int v1, .ref a3]) (rest := []) O hTX cw_La_budget st_La_budget wd_72 (c_La_budget hln mh3) rfl ⟨rfl, rfl⟩ ⟨Nat.le_of_ble_eq_true rfl, Nat.le_of_ble_eq_true rfl⟩ hq1 (Nat.le_of_ble_eq_true rfl) d_La_law_363 ?_
  refine ax_istore (lv' := [(5, .int v2), (4, .int x4), (3, .ref a3), (2, .ref a2), (1, .ref a1), (0, .ref 20000)]) O d_La_law_366 (by decide) rfl ?_
  refine ax_aload_n O d_La_law_368 rfl 3 rfl ?_
  refine ax_aload_n O d_La_law_369 rfl 5 rfl ?_
  refine ax_iload O d_La_law_370 1 rfl ?_
  refine ax_iconst (v := 1) O d_La_law_372 (by decide) ?_
  refine ax_iadd O d_La_law_373 ?_
  obtain ⟨v4, iv4, kv4, hf⟩ := msl_some hf
  refine ax_sld O hXs iv4 kv4 d_La_law_374 ?_
  obtain ⟨fh7, ch7, hf⟩ := mis_some hf
  obtain ⟨v6, h7, mh7, hf⟩ := mcl_some hf
  refine ax_callV (As := [.int v4]) (rest := []) O cw_Mo_budget (q := (R_Mo, T_Mo, 31)) rfl rfl in_Mo_budget se_Mo_budget lk_La_69 ch7 (c_Mo_budget mh7) rfl ⟨rfl, rfl⟩ ⟨Nat.le_of_ble_eq_true rfl, Nat.le_of_ble_eq_true rfl⟩ hq1 (Nat.le_of_ble_eq_true rfl) d_La_law_375 ?_
  refine ax_istore (lv' := [(6, .int v6), (5, .int v2), (4, .int x4), (3, .ref a3), (2, .ref a2), (1, .ref a1), (0, .ref 20000)]) O d_La_law_378 (by decide) rfl ?_
  refine ax_goto (tgt := 462) O d_La_law_380 (by decide) ?_
  cases hf
  refine ax_sub [2, 3, 4, 5, 6] rfl ?_
  exact kk

noncomputable def f_La_c7 (n0 : Nat) (xs : Nat → Int32) (L : Nat) (h0 : mH) (x4 : Int32) (a3 a2 a1 : Nat) : Option (Unit × mH) :=
  mis h0 a1 0 <|
  mcl (f_SF_decode n0 h0 a1) fun v2 h3 =>
  mis h3 a2 10 <|
  mcl (f_Mo_decode n0 h3 a2) fun v5 h6 =>
  some ((), h6)
set_option maxHeartbeats 4000000 in
set_option maxRecDepth 100000 in
theorem lc_7 {X : mX} {ad : Nat → Nat} {ln : Launch} (hln : ln.stackTraces = false) (O : mO X ad R_La b_La_law 7 room_1 ln) {L : Nat} {xs : Nat → Int32} (hXs : mScr X ad L xs) (hTX : mTX X) {cs ss : Nat} (hq0 : cs ≤ room_1.cells ∧ ss ≤ room_1.slots) (hq1 : cs + 1 ≤ room_1.cells ∧ ss + 6 ≤ room_1.slots) (n0 : Nat) (h0 : mH) (x4 : Int32) (a3 a2 a1 : Nat) (u : Unit) (h' : mH) (hf : f_La_c7 n0 xs L h0 x4 a3 a2 a1 = some (u, h')) (kk : mAW X ad (cs + 1) (ss + 6) 462 [(4, .int x4), (3, .ref a3), (2, .ref a2), (1, .ref a1), (0, .ref 20000)] [] h') : mAW X ad cs ss 383 [(4, .int x4), (3, .ref a3), (2, .ref a2), (1, .ref a1), (0, .ref 20000)] [] h0 := by
  unfold f_La_c7 at hf
  refine ax_aload_n O d_La_law_383 rfl 3 rfl ?_
  obtain ⟨fh3, ch3, hf⟩ := mis_some hf
  obtain ⟨v2, h3, mh3, hf⟩ := mcl_some hf
  refine ax_callV (As := []) (rest := []) O cw_SF_decode (q := (R_SF, T_SF, 17)) rfl rfl in_SF_decode se_SF_decode lk_La_70 ch3 (c_SF_decode mh3) rfl ⟨rfl, rfl⟩ ⟨Nat.le_of_ble_eq_true rfl, Nat.le_of_ble_eq_true rfl⟩ hq0 (Nat.le_of_ble_eq_true rfl) d_La_law_384 ?_
  refine ax_pop O d_La_law_387 rfl ?_
  refine ax_aload_n O d_La_law_388 rfl 2 rfl ?_
  obtain ⟨fh6, ch6, hf⟩ := mis_some hf
  obtain ⟨v5, h6, mh6, hf⟩ := mcl_some hf
  refine ax_callV (As := []) (rest := []) O cw_Mo_decode (q := (R_Mo, T_Mo, 31)) rfl rfl in_Mo_decode se_Mo_decode lk_La_73 ch6 (c_Mo_decode mh6) rfl ⟨rfl, rfl⟩ ⟨Nat.le_of_ble_eq_true rfl, Nat.le_of_ble_eq_true rfl⟩ hq0 (Nat.le_of_ble_eq_true rfl) d_La_law_389 ?_
  refine ax_pop O d_La_law_392 rfl ?_
  refine ax_goto (tgt := 462) O d_La_law_393 (by decide) ?_
  cases hf
  refine ax_widen (cs' := cs + 1) (ss' := ss + 6) (Nat.le_add_right _ _) (Nat.le_add_right _ _) ?_
  exact kk

noncomputable def f_La_c8 (n0 : Nat) (xs : Nat → Int32) (L : Nat) (h0 : mH) (x4 : Int32) (a3 a2 a1 : Nat) : Option (Unit × mH) :=
  msl xs L (x4 + 1) fun v1 =>
  mis h0 a1 0 <|
  mcl (f_SF_at n0 h0 a1 v1) fun v3 h4 =>
  msl xs L (x4 + 1) fun v5 =>
  mis h4 a2 10 <|
  mcl (f_Mo_at n0 h4 a2 v5) fun v7 h8 =>
  if v3 = v7 then
    some ((), h8)
  else
    none
set_option maxHeartbeats 4000000 in
set_option maxRecDepth 100000 in
theorem lc_8 {X : mX} {ad : Nat → Nat} {ln : Launch} (hln : ln.stackTraces = false) (O : mO X ad R_La b_La_law 7 room_1 ln) {L : Nat} {xs : Nat → Int32} (hXs : mScr X ad L xs) (hTX : mTX X) {cs ss : Nat} (hq0 : cs ≤ room_1.cells ∧ ss ≤ room_1.slots) (hq1 : cs + 1 ≤ room_1.cells ∧ ss + 6 ≤ room_1.slots) (n0 : Nat) (h0 : mH) (x4 : Int32) (a3 a2 a1 : Nat) (u : Unit) (h' : mH) (hf : f_La_c8 n0 xs L h0 x4 a3 a2 a1 = some (u, h')) (kk : mAW X ad (cs + 1) (ss + 6) 462 [(4, .int x4), (3, .ref a3), (2, .ref a2), (1, .ref a1), (0, .ref 20000)] [] h') : mAW X ad cs ss 396 [(4, .int x4), (3, .ref a3), (2, .ref a2), (1, .ref a1), (0, .ref 20000)] [] h0 := by
  unfold f_La_c8 at hf
  refine ax_aload_n O d_La_law_396 rfl 3 rfl ?_
  refine ax_aload_n O d_La_law_397 rfl 4 rfl ?_
  refine ax_iload O d_La_law_398 0 rfl ?_
  refine ax_iconst (v := 1) O d_La_law_400 (by decide) ?_
  refine ax_iadd O d_La_law_401 ?_
  obtain ⟨v1, iv1, kv1, hf⟩ := msl_some hf
  refine ax_sld O hXs iv1 kv1 d_La_law_402 ?_
  obtain ⟨fh4, ch4, hf⟩ := mis_some hf
  obtain ⟨v3, h4, mh4, hf⟩ := mcl_some hf
  refine ax_callV (As := [.int v1]) (rest := []) O cw_SF_at (q := (R_SF, T_SF, 17)) rfl rfl in_SF_at se_SF_at lk_La_74 ch4 (c_SF_at mh4) rfl ⟨rfl, rfl⟩ ⟨Nat.le_of_ble_eq_true rfl, Nat.le_of_ble_eq_true rfl⟩ hq0 (Nat.le_of_ble_eq_true rfl) d_La_law_403 ?_
  refine ax_aload_n O d_La_law_406 rfl 2 rfl ?_
  refine ax_aload_n O d_La_law_407 rfl 4 rfl ?_
  refine ax_iload O d_La_law_408 0 rfl ?_
  refine ax_iconst (v := 1) O d_La_law_410 (by decide) ?_
  refine ax_iadd O d_La_law_411 ?_
  obtain ⟨v5, iv5, kv5, hf⟩ := msl_some hf
  refine ax_sld O hXs iv5 kv5 d_La_law_412 ?_
  obtain ⟨fh8, ch8, hf⟩ := mis_some hf
  obtain ⟨v7, h8, mh8, hf⟩ := mcl_some hf
  refine ax_callV (As := [.int v5]) (rest := [.int v3]) O cw_Mo_at (q := (R_Mo, T_Mo, 31)) rfl rfl in_Mo_at se_Mo_at lk_La_77 ch8 (c_Mo_at mh8) rfl ⟨rfl, rfl⟩ ⟨Nat.le_of_ble_eq_true rfl, Nat.le_of_ble_eq_true rfl⟩ hq0 (Nat.le_of_ble_eq_true rfl) d_La_law_413 ?_
  refine ax_icmp_eq (tgt := 462) O d_La_law_416 (by decide) (fun q9 => ?_) (fun q9 => ?_)
  · rw [if_pos q9] at hf
    cases hf
    refine ax_widen (cs' := cs + 1) (ss' := ss + 6) (Nat.le_add_right _ _) (Nat.le_add_right _ _) ?_
    exact kk
  · rw [if_neg q9] at hf
    refine ax_iconst (v := 0) O d_La_law_419 (by decide) ?_
    cases hf

noncomputable def f_La_c9 (n0 : Nat) (xs : Nat → Int32) (L : Nat) (h0 : mH) (x4 : Int32) (a3 a2 a1 : Nat) : Option (Unit × mH) :=
  msl xs L (x4 + 1) fun v1 =>
  mis h0 a1 0 <|
  mcl (f_SF_fault n0 h0 a1 v1) fun v3 h4 =>
  msl xs L (x4 + 1) fun v5 =>
  mis h4 a2 10 <|
  mcl (f_Mo_fault n0 h4 a2 v5) fun v7 h8 =>
  some ((), h8)
set_option maxHeartbeats 4000000 in
set_option maxRecDepth 100000 in
theorem lc_9 {X : mX} {ad : Nat → Nat} {ln : Launch} (hln : ln.stackTraces = false) (O : mO X ad R_La b_La_law 7 room_1 ln) {L : Nat} {xs : Nat → Int32} (hXs : mScr X ad L xs) (hTX : mTX X) {cs ss : Nat} (hq0 : cs ≤ room_1.cells ∧ ss ≤ room_1.slots) (hq1 : cs + 1 ≤ room_1.cells ∧ ss + 6 ≤ room_1.slots) (n0 : Nat) (h0 : mH) (x4 : Int32) (a3 a2 a1 : Nat) (u : Unit) (h' : mH) (hf : f_La_c9 n0 xs L h0 x4 a3 a2 a1 = some (u, h')) (kk : mAW X ad (cs + 1) (ss + 6) 462 [(4, .int x4), (3, .ref a3), (2, .ref a2), (1, .ref a1), (0, .ref 20000)] [] h') : mAW X ad cs ss 421 [(4, .int x4), (3, .ref a3), (2, .ref a2), (1, .ref a1), (0, .ref 20000)] [] h0 := by
  unfold f_La_c9 at hf
  refine ax_aload_n O d_La_law_421 rfl 3 rfl ?_
  refine ax_aload_n O d_La_law_422 rfl 4 rfl ?_
  refine ax_iload O d_La_law_423 0 rfl ?_
  refine ax_iconst (v := 1) O d_La_law_425 (by decide) ?_
  refine ax_iadd O d_La_law_426 ?_
  obtain ⟨v1, iv1, kv1, hf⟩ := msl_some hf
  refine ax_sld O hXs iv1 kv1 d_La_law_427 ?_
  obtain ⟨fh4, ch4, hf⟩ := mis_some hf
  obtain ⟨v3, h4, mh4, hf⟩ := mcl_some hf
  refine ax_callV (As := [.int v1]) (rest := []) O cw_SF_fault (q := (R_SF, T_SF, 17)) rfl rfl in_SF_fault se_SF_fault lk_La_78 ch4 (c_SF_fault mh4) rfl ⟨rfl, rfl⟩ ⟨Nat.le_of_ble_eq_true rfl, Nat.le_of_ble_eq_true rfl⟩ hq0 (Nat.le_of_ble_eq_true rfl) d_La_law_428 ?_
  refine ax_pop O d_La_law_431 rfl ?_
  refine ax_aload_n O d_La_law_432 rfl 2 rfl ?_
  refine ax_aload_n O d_La_law_433 rfl 4 rfl ?_
  refine ax_iload O d_La_law_434 0 rfl ?_
  refine ax_iconst (v := 1) O d_La_law_436 (by decide) ?_
  refine ax_iadd O d_La_law_437 ?_
  obtain ⟨v5, iv5, kv5, hf⟩ := msl_some hf
  refine ax_sld O hXs iv5 kv5 d_La_law_438 ?_
  obtain ⟨fh8, ch8, hf⟩ := mis_some hf
  obtain ⟨v7, h8, mh8, hf⟩ := mcl_some hf
  refine ax_callV (As := [.int v5]) (rest := []) O cw_Mo_fault (q := (R_Mo, T_Mo, 31)) rfl rfl in_Mo_fault se_Mo_fault lk_La_81 ch8 (c_Mo_fault mh8) rfl ⟨rfl, rfl⟩ ⟨Nat.le_of_ble_eq_true rfl, Nat.le_of_ble_eq_true rfl⟩ hq0 (Nat.le_of_ble_eq_true rfl) d_La_law_439 ?_
  refine ax_pop O d_La_law_442 rfl ?_
  refine ax_goto (tgt := 462) O d_La_law_443 (by decide) ?_
  cases hf
  refine ax_widen (cs' := cs + 1) (ss' := ss + 6) (Nat.le_add_right _ _) (Nat.le_add_right _ _) ?_
  exact kk

noncomputable def f_La_c10 (n0 : Nat) (xs : Nat → Int32) (L : Nat) (h0 : mH) (x4 : Int32) (a3 a2 a1 : Nat) : Option (Unit × mH) :=
  mcl (f_La_keep n0 h0 a1 a3) fun v1 h2 =>
  mis h2 a2 10 <|
  mcl (f_Mo_keep n0 h2 a2) fun v4 h5 =>
  some ((), h5)
set_option maxHeartbeats 4000000 in
set_option maxRecDepth 100000 in
theorem lc_10 {X : mX} {ad : Nat → Nat} {ln : Launch} (hln : ln.stackTraces = false) (O : mO X ad R_La b_La_law 7 room_1 ln) {L : Nat} {xs : Nat → Int32} (hXs : mScr X ad L xs) (hTX : mTX X) {cs ss : Nat} (hq0 : cs ≤ room_1.cells ∧ ss ≤ room_1.slots) (hq1 : cs + 1 ≤ room_1.cells ∧ ss + 6 ≤ room_1.slots) (n0 : Nat) (h0 : mH) (x4 : Int32) (a3 a2 a1 : Nat) (u : Unit) (h' : mH) (hf : f_La_c10 n0 xs L h0 x4 a3 a2 a1 = some (u, h')) (kk : mAW X ad (cs + 1) (ss + 6) 462 [(4, .int x4), (3, .ref a3), (2, .ref a2), (1, .ref a1), (0, .ref 20000)] [] h') : mAW X ad cs ss 446 [(4, .int x4), (3, .ref a3), (2, .ref a2), (1, .ref a1), (0, .ref 20000)] [] h0 := by
  unfold f_La_c10 at hf
  refine ax_aload_n O d_La_law_446 rfl 3 rfl ?_
  refine ax_aload_n O d_La_law_447 rfl 1 rfl ?_
  obtain ⟨v1, h2, mh2, hf⟩ := mcl_some hf
  refine ax_callW (As := [.ref a1, .ref a3]) (rest := []) O hTX cw_La_keep st_La_keep wd_73 (c_La_keep hln mh2) rfl ⟨rfl, rfl⟩ ⟨Nat.le_of_ble_eq_true rfl, Nat.le_of_ble_eq_true rfl⟩ hq1 (Nat.le_of_ble_eq_true rfl) d_La_law_448 ?_
  refine ax_istore (lv' := [(5, .int v1), (4, .int x4), (3, .ref a3), (2, .ref a2), (1, .ref a1), (0, .ref 20000)]) O d_La_law_451 (by decide) rfl ?_
  refine ax_aload_n O d_La_law_453 rfl 3 rfl ?_
  obtain ⟨fh5, ch5, hf⟩ := mis_some hf
  obtain ⟨v4, h5, mh5, hf⟩ := mcl_some hf
  refine ax_callV (As := []) (rest := []) O cw_Mo_keep (q := (R_Mo, T_Mo, 31)) rfl rfl in_Mo_keep se_Mo_keep lk_La_85 ch5 (c_Mo_keep mh5) rfl ⟨rfl, rfl⟩ ⟨Nat.le_of_ble_eq_true rfl, Nat.le_of_ble_eq_true rfl⟩ hq1 (Nat.le_of_ble_eq_true rfl) d_La_law_454 ?_
  refine ax_istore (lv' := [(6, .int v4), (5, .int v1), (4, .int x4), (3, .ref a3), (2, .ref a2), (1, .ref a1), (0, .ref 20000)]) O d_La_law_457 (by decide) rfl ?_
  refine ax_goto (tgt := 462) O d_La_law_459 (by decide) ?_
  cases hf
  refine ax_sub [2, 3, 4, 5, 6] rfl ?_
  exact kk

noncomputable def f_La_step (n0 : Nat) (xs : Nat → Int32) (L : Nat) (h0 : mH) (x4 : Int32) (a3 a2 a1 : Nat) : Option (Unit × mH) :=
  msl xs L x4 fun v1 =>
  mnm (v1 &&& 15) fun v2 =>
  if v2 = 0 then
    f_La_c0 n0 xs L h0 x4 a3 a2 a1
  else
    if v2 = 1 then
      f_La_c1 n0 xs L h0 x4 a3 a2 a1
    else
      if v2 = 2 then
        f_La_c2 n0 xs L h0 x4 a3 a2 a1
      else
        if v2 = 3 then
          f_La_c3 n0 xs L h0 x4 a3 a2 a1
        else
          if v2 = 4 then
            f_La_c4 n0 xs L h0 x4 a3 a2 a1
          else
            if v2 = 5 then
              f_La_c5 n0 xs L h0 x4 a3 a2 a1
            else
              if v2 = 6 then
                f_La_c6 n0 xs L h0 x4 a3 a2 a1
              else
                if v2 = 7 then
                  f_La_c7 n0 xs L h0 x4 a3 a2 a1
                else
                  if v2 = 8 then
                    f_La_c8 n0 xs L h0 x4 a3 a2 a1
                  else
                    if v2 = 9 then
                      f_La_c9 n0 xs L h0 x4 a3 a2 a1
                    else
                      if v2 = 10 then
                        f_La_c10 n0 xs L h0 x4 a3 a2 a1
                      else
                        some ((), h0)
set_option maxHeartbeats 4000000 in
set_option maxRecDepth 100000 in
theorem lc_step {X : mX} {ad : Nat → Nat} {ln : Launch} (hln : ln.stackTraces = false) (O : mO X ad R_La b_La_law 7 room_1 ln) {L : Nat} {xs : Nat → Int32} (hXs : mScr X ad L xs) (hTX : mTX X) {cs ss : Nat} (hq0 : cs ≤ room_1.cells ∧ ss ≤ room_1.slots) (hq1 : cs + 1 ≤ room_1.cells ∧ ss + 6 ≤ room_1.slots) (n0 : Nat) (h0 : mH) (x4 : Int32) (a3 a2 a1 : Nat) (u : Unit) (h' : mH) (hf : f_La_step n0 xs L h0 x4 a3 a2 a1 = some (u, h')) (kk : mAW X ad (cs + 1) (ss + 6) 462 [(4, .int x4), (3, .ref a3), (2, .ref a2), (1, .ref a1), (0, .ref 20000)] [] h') : mAW X ad cs ss 33 [(4, .int x4), (3, .ref a3), (2, .ref a2), (1, .ref a1), (0, .ref 20000)] [] h0 := by
  unfold f_La_step at hf
  refine ax_aload_n O d_La_law_33 rfl 4 rfl ?_
  refine ax_iload O d_La_law_34 0 rfl ?_
  obtain ⟨v1, iv1, kv1, hf⟩ := msl_some hf
  refine ax_sld O hXs iv1 kv1 d_La_law_36 ?_
  refine ax_bipush (v := 15) O d_La_law_37 (by decide) ?_
  refine ax_iand O d_La_law_39 ?_
  obtain ⟨v2, ev2, hf⟩ := mnm_some hf
  refine ax_nmi ev2 ?_
  by_cases q3 : v2 = 0
  · rw [if_pos q3] at hf
    refine ax_tableIn (tgt := 100) O d_La_law_40 (by rw [q3]; decide) (by rw [q3]; decide) (by rw [q3]; rfl) (by decide) ?_
    exact lc_0 hln O hXs hTX hq0 hq1 n0 _ _ _ _ _ _ _ hf kk
  · rw [if_neg q3] at hf
    by_cases q4 : v2 = 1
    · rw [if_pos q4] at hf
      refine ax_tableIn (tgt := 173) O d_La_law_40 (by rw [q4]; decide) (by rw [q4]; decide) (by rw [q4]; rfl) (by decide) ?_
      exact lc_1 hln O hXs hTX hq0 hq1 n0 _ _ _ _ _ _ _ hf kk
    · rw [if_neg q4] at hf
      by_cases q5 : v2 = 2
      · rw [if_pos q5] at hf
        refine ax_tableIn (tgt := 213) O d_La_law_40 (by rw [q5]; decide) (by rw [q5]; decide) (by rw [q5]; rfl) (by decide) ?_
        exact lc_2 hln O hXs hTX hq0 hq1 n0 _ _ _ _ _ _ _ hf kk
      · rw [if_neg q5] at hf
        by_cases q6 : v2 = 3
        · rw [if_pos q6] at hf
          refine ax_tableIn (tgt := 241) O d_La_law_40 (by rw [q6]; decide) (by rw [q6]; decide) (by rw [q6]; rfl) (by decide) ?_
          exact lc_3 hln O hXs hTX hq0 hq1 n0 _ _ _ _ _ _ _ hf kk
        · rw [if_neg q6] at hf
          by_cases q7 : v2 = 4
          · rw [if_pos q7] at hf
            refine ax_tableIn (tgt := 281) O d_La_law_40 (by rw [q7]; decide) (by rw [q7]; decide) (by rw [q7]; rfl) (by decide) ?_
            exact lc_4 hln O hXs hTX hq0 hq1 n0 _ _ _ _ _ _ _ hf kk
          · rw [if_neg q7] at hf
            by_cases q8 : v2 = 5
            · rw [if_pos q8] at hf
              refine ax_tableIn (tgt := 342) O d_La_law_40 (by rw [q8]; decide) (by rw [q8]; decide) (by rw [q8]; rfl) (by decide) ?_
              exact lc_5 hln O hXs hTX hq0 hq1 n0 _ _ _ _ _ _ _ hf kk
            · rw [if_neg q8] at hf
              by_cases q9 : v2 = 6
              · rw [if_pos q9] at hf
                refine ax_tableIn (tgt := 355) O d_La_law_40 (by rw [q9]; decide) (by rw [q9]; decide) (by rw [q9]; rfl) (by decide) ?_
                exact lc_6 hln O hXs hTX hq0 hq1 n0 _ _ _ _ _ _ _ hf kk
              · rw [if_neg q9] at hf
                by_cases q10 : v2 = 7
                · rw [if_pos q10] at hf
                  refine ax_tableIn (tgt := 383) O d_La_law_40 (by rw [q10]; decide) (by rw [q10]; decide) (by rw [q10]; rfl) (by decide) ?_
                  exact lc_7 hln O hXs hTX hq0 hq1 n0 _ _ _ _ _ _ _ hf kk
                · rw [if_neg q10] at hf
                  by_cases q11 : v2 = 8
                  · rw [if_pos q11] at hf
                    refine ax_tableIn (tgt := 396) O d_La_law_40 (by rw [q11]; decide) (by rw [q11]; decide) (by rw [q11]; rfl) (by decide) ?_
                    exact lc_8 hln O hXs hTX hq0 hq1 n0 _ _ _ _ _ _ _ hf kk
                  · rw [if_neg q11] at hf
                    by_cases q12 : v2 = 9
                    · rw [if_pos q12] at hf
                      refine ax_tableIn (tgt := 421) O d_La_law_40 (by rw [q12]; decide) (by rw [q12]; decide) (by rw [q12]; rfl) (by decide) ?_
                      exact lc_9 hln O hXs hTX hq0 hq1 n0 _ _ _ _ _ _ _ hf kk
                    · rw [if_neg q12] at hf
                      by_cases q13 : v2 = 10
                      · rw [if_pos q13] at hf
                        refine ax_tableIn (tgt := 446) O d_La_law_40 (by rw [q13]; decide) (by rw [q13]; decide) (by rw [q13]; rfl) (by decide) ?_
                        exact lc_10 hln O hXs hTX hq0 hq1 n0 _ _ _ _ _ _ _ hf kk
                      · rw [if_neg q13] at hf
                        refine ax_tableOut (tgt := 462) O d_La_law_40 (mTi (fun z h1 h2 => by rcases (show z = 0 ∨ z = 1 ∨ z = 2 ∨ z = 3 ∨ z = 4 ∨ z = 5 ∨ z = 6 ∨ z = 7 ∨ z = 8 ∨ z = 9 ∨ z = 10 by omega) with rfl | rfl | rfl | rfl | rfl | rfl | rfl | rfl | rfl | rfl | rfl; exact lv_neT q3 (by decide); exact lv_neT q4 (by decide); exact lv_neT q5 (by decide); exact lv_neT q6 (by decide); exact lv_neT q7 (by decide); exact lv_neT q8 (by decide); exact lv_neT q9 (by decide); exact lv_neT q10 (by decide); exact lv_neT q11 (by decide); exact lv_neT q12 (by decide); exact lv_neT q13 (by decide))) (by decide) ?_
                        cases hf
                        refine ax_widen (cs' := cs + 1) (ss' := ss + 6) (Nat.le_add_right _ _) (Nat.le_add_right _ _) ?_
                        exact kk

