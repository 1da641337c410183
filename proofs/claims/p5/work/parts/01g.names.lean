theorem dX5_keep_175 : decode cX5_keep 175 = .ok (.getfield 54, 3) := by decide +kernel
theorem dX5_keep_178 : decode cX5_keep 178 = .ok (.aload_n 0, 1) := by decide +kernel
theorem dX5_keep_179 : decode cX5_keep 179 = .ok (.getfield 113, 3) := by decide +kernel
theorem dX5_keep_182 : decode cX5_keep 182 = .ok (.aload_n 0, 1) := by decide +kernel
theorem dX5_keep_183 : decode cX5_keep 183 = .ok (.getfield 16, 3) := by decide +kernel
theorem dX5_keep_186 : decode cX5_keep 186 = .ok (.aload_n 0, 1) := by decide +kernel
theorem dX5_keep_187 : decode cX5_keep 187 = .ok (.getfield 79, 3) := by decide +kernel
theorem dX5_keep_190 : decode cX5_keep 190 = .ok (.iaload, 1) := by decide +kernel
theorem dX5_keep_191 : decode cX5_keep 191 = .ok (.iastore, 1) := by decide +kernel
theorem dX5_keep_192 : decode cX5_keep 192 = .ok (.aload_n 0, 1) := by decide +kernel
theorem dX5_keep_193 : decode cX5_keep 193 = .ok (.getfield 57, 3) := by decide +kernel
theorem dX5_keep_196 : decode cX5_keep 196 = .ok (.aload_n 0, 1) := by decide +kernel
theorem dX5_keep_197 : decode cX5_keep 197 = .ok (.getfield 113, 3) := by decide +kernel
theorem dX5_keep_200 : decode cX5_keep 200 = .ok (.aload_n 0, 1) := by decide +kernel
theorem dX5_keep_201 : decode cX5_keep 201 = .ok (.getfield 116, 3) := by decide +kernel
theorem dX5_keep_204 : decode cX5_keep 204 = .ok (.iastore, 1) := by decide +kernel
theorem dX5_keep_205 : decode cX5_keep 205 = .ok (.iconst 0, 1) := by decide +kernel
theorem dX5_keep_206 : decode cX5_keep 206 = .ok (.istore_n 1, 1) := by decide +kernel
theorem dX5_keep_207 : decode cX5_keep 207 = .ok (.iload_n 1, 1) := by decide +kernel
theorem dX5_keep_208 : decode cX5_keep 208 = .ok (.bipush 9, 2) := by decide +kernel
theorem dX5_keep_210 : decode cX5_keep 210 = .ok (.if_icmp .ge 54, 3) := by decide +kernel
theorem dX5_keep_213 : decode cX5_keep 213 = .ok (.aload_n 0, 1) := by decide +kernel
theorem dX5_keep_214 : decode cX5_keep 214 = .ok (.getfield 16, 3) := by decide +kernel
theorem dX5_keep_217 : decode cX5_keep 217 = .ok (.aload_n 0, 1) := by decide +kernel
theorem dX5_keep_218 : decode cX5_keep 218 = .ok (.getfield 79, 3) := by decide +kernel
theorem dX5_keep_221 : decode cX5_keep 221 = .ok (.iaload, 1) := by decide +kernel
theorem dX5_keep_222 : decode cX5_keep 222 = .ok (.ifCond .lt 42, 3) := by decide +kernel
theorem dX5_keep_225 : decode cX5_keep 225 = .ok (.aload_n 0, 1) := by decide +kernel
theorem dX5_keep_226 : decode cX5_keep 226 = .ok (.getfield 66, 3) := by decide +kernel
theorem dX5_keep_229 : decode cX5_keep 229 = .ok (.bipush 9, 2) := by decide +kernel
theorem dX5_keep_231 : decode cX5_keep 231 = .ok (.aload_n 0, 1) := by decide +kernel
theorem dX5_keep_232 : decode cX5_keep 232 = .ok (.getfield 113, 3) := by decide +kernel
theorem dX5_keep_235 : decode cX5_keep 235 = .ok (.imul, 1) := by decide +kernel
theorem dX5_keep_236 : decode cX5_keep 236 = .ok (.iload_n 1, 1) := by decide +kernel
theorem dX5_keep_237 : decode cX5_keep 237 = .ok (.iadd, 1) := by decide +kernel
theorem dX5_keep_238 : decode cX5_keep 238 = .ok (.aload_n 0, 1) := by decide +kernel
theorem dX5_keep_239 : decode cX5_keep 239 = .ok (.getfield 29, 3) := by decide +kernel
theorem dX5_keep_242 : decode cX5_keep 242 = .ok (.bipush 9, 2) := by decide +kernel
theorem dX5_keep_244 : decode cX5_keep 244 = .ok (.aload_n 0, 1) := by decide +kernel
theorem dX5_keep_245 : decode cX5_keep 245 = .ok (.getfield 16, 3) := by decide +kernel
theorem dX5_keep_248 : decode cX5_keep 248 = .ok (.aload_n 0, 1) := by decide +kernel
theorem dX5_keep_249 : decode cX5_keep 249 = .ok (.getfield 79, 3) := by decide +kernel
theorem dX5_keep_252 : decode cX5_keep 252 = .ok (.iaload, 1) := by decide +kernel
theorem dX5_keep_253 : decode cX5_keep 253 = .ok (.imul, 1) := by decide +kernel
theorem dX5_keep_254 : decode cX5_keep 254 = .ok (.iload_n 1, 1) := by decide +kernel
theorem dX5_keep_255 : decode cX5_keep 255 = .ok (.iadd, 1) := by decide +kernel
theorem dX5_keep_256 : decode cX5_keep 256 = .ok (.baload, 1) := by decide +kernel
theorem dX5_keep_257 : decode cX5_keep 257 = .ok (.bastore, 1) := by decide +kernel
theorem dX5_keep_258 : decode cX5_keep 258 = .ok (.iinc 1 1, 3) := by decide +kernel
theorem dX5_keep_261 : decode cX5_keep 261 = .ok (.goto (-54), 3) := by decide +kernel
theorem dX5_keep_264 : decode cX5_keep 264 = .ok (.iconst 0, 1) := by decide +kernel
theorem dX5_keep_265 : decode cX5_keep 265 = .ok (.istore_n 1, 1) := by decide +kernel
theorem dX5_keep_266 : decode cX5_keep 266 = .ok (.iload_n 1, 1) := by decide +kernel
theorem dX5_keep_267 : decode cX5_keep 267 = .ok (.bipush 20, 2) := by decide +kernel
theorem dX5_keep_269 : decode cX5_keep 269 = .ok (.if_icmp .ge 49, 3) := by decide +kernel
theorem dX5_keep_272 : decode cX5_keep 272 = .ok (.aload_n 0, 1) := by decide +kernel
theorem dX5_keep_273 : decode cX5_keep 273 = .ok (.getfield 60, 3) := by decide +kernel
theorem dX5_keep_276 : decode cX5_keep 276 = .ok (.bipush 20, 2) := by decide +kernel
theorem dX5_keep_278 : decode cX5_keep 278 = .ok (.aload_n 0, 1) := by decide +kernel
theorem dX5_keep_279 : decode cX5_keep 279 = .ok (.getfield 113, 3) := by decide +kernel
theorem dX5_keep_282 : decode cX5_keep 282 = .ok (.imul, 1) := by decide +kernel
theorem dX5_keep_283 : decode cX5_keep 283 = .ok (.iload_n 1, 1) := by decide +kernel
theorem dX5_keep_284 : decode cX5_keep 284 = .ok (.iadd, 1) := by decide +kernel
theorem dX5_keep_285 : decode cX5_keep 285 = .ok (.aload_n 0, 1) := by decide +kernel
theorem dX5_keep_286 : decode cX5_keep 286 = .ok (.getfield 45, 3) := by decide +kernel
theorem dX5_keep_289 : decode cX5_keep 289 = .ok (.iload_n 1, 1) := by decide +kernel
theorem dX5_keep_290 : decode cX5_keep 290 = .ok (.iaload, 1) := by decide +kernel
theorem dX5_keep_291 : decode cX5_keep 291 = .ok (.iastore, 1) := by decide +kernel
theorem dX5_keep_292 : decode cX5_keep 292 = .ok (.aload_n 0, 1) := by decide +kernel
theorem dX5_keep_293 : decode cX5_keep 293 = .ok (.getfield 63, 3) := by decide +kernel
theorem dX5_keep_296 : decode cX5_keep 296 = .ok (.bipush 20, 2) := by decide +kernel
theorem dX5_keep_298 : decode cX5_keep 298 = .ok (.aload_n 0, 1) := by decide +kernel
theorem dX5_keep_299 : decode cX5_keep 299 = .ok (.getfield 113, 3) := by decide +kernel
theorem dX5_keep_302 : decode cX5_keep 302 = .ok (.imul, 1) := by decide +kernel
theorem dX5_keep_303 : decode cX5_keep 303 = .ok (.iload_n 1, 1) := by decide +kernel
theorem dX5_keep_304 : decode cX5_keep 304 = .ok (.iadd, 1) := by decide +kernel
theorem dX5_keep_305 : decode cX5_keep 305 = .ok (.aload_n 0, 1) := by decide +kernel
theorem dX5_keep_306 : decode cX5_keep 306 = .ok (.getfield 48, 3) := by decide +kernel
theorem dX5_keep_309 : decode cX5_keep 309 = .ok (.iload_n 1, 1) := by decide +kernel
theorem dX5_keep_310 : decode cX5_keep 310 = .ok (.iaload, 1) := by decide +kernel
theorem dX5_keep_311 : decode cX5_keep 311 = .ok (.iastore, 1) := by decide +kernel
theorem dX5_keep_312 : decode cX5_keep 312 = .ok (.iinc 1 1, 3) := by decide +kernel
theorem dX5_keep_315 : decode cX5_keep 315 = .ok (.goto (-49), 3) := by decide +kernel
theorem dX5_keep_318 : decode cX5_keep 318 = .ok (.aload_n 0, 1) := by decide +kernel
theorem dX5_keep_319 : decode cX5_keep 319 = .ok (.dup, 1) := by decide +kernel
theorem dX5_keep_320 : decode cX5_keep 320 = .ok (.getfield 113, 3) := by decide +kernel
theorem dX5_keep_323 : decode cX5_keep 323 = .ok (.iconst 1, 1) := by decide +kernel
theorem dX5_keep_324 : decode cX5_keep 324 = .ok (.iadd, 1) := by decide +kernel
theorem dX5_keep_325 : decode cX5_keep 325 = .ok (.putfield 113, 3) := by decide +kernel
theorem dX5_keep_328 : decode cX5_keep 328 = .ok (.return_, 1) := by decide +kernel
theorem dX5_behind_0 : decode cX5_behind 0 = .ok (.iload_n 1, 1) := by decide +kernel
theorem dX5_behind_1 : decode cX5_behind 1 = .ok (.istore_n 2, 1) := by decide +kernel
theorem dX5_behind_2 : decode cX5_behind 2 = .ok (.aload_n 0, 1) := by decide +kernel
theorem dX5_behind_3 : decode cX5_behind 3 = .ok (.getfield 116, 3) := by decide +kernel
theorem dX5_behind_6 : decode cX5_behind 6 = .ok (.ifCond .le 41, 3) := by decide +kernel
theorem dX5_behind_9 : decode cX5_behind 9 = .ok (.aload_n 0, 1) := by decide +kernel
theorem dX5_behind_10 : decode cX5_behind 10 = .ok (.getfield 48, 3) := by decide +kernel
theorem dX5_behind_13 : decode cX5_behind 13 = .ok (.aload_n 0, 1) := by decide +kernel
theorem dX5_behind_14 : decode cX5_behind 14 = .ok (.getfield 116, 3) := by decide +kernel
theorem dX5_behind_17 : decode cX5_behind 17 = .ok (.iconst 1, 1) := by decide +kernel
theorem dX5_behind_18 : decode cX5_behind 18 = .ok (.isub, 1) := by decide +kernel
theorem dX5_behind_19 : decode cX5_behind 19 = .ok (.iaload, 1) := by decide +kernel
theorem dX5_behind_20 : decode cX5_behind 20 = .ok (.iload_n 2, 1) := by decide +kernel
theorem dX5_behind_21 : decode cX5_behind 21 = .ok (.if_icmp .ne 26, 3) := by decide +kernel
theorem dX5_behind_24 : decode cX5_behind 24 = .ok (.aload_n 0, 1) := by decide +kernel
theorem dX5_behind_25 : decode cX5_behind 25 = .ok (.dup, 1) := by decide +kernel
theorem dX5_behind_26 : decode cX5_behind 26 = .ok (.getfield 116, 3) := by decide +kernel
theorem dX5_behind_29 : decode cX5_behind 29 = .ok (.iconst 1, 1) := by decide +kernel
theorem dX5_behind_30 : decode cX5_behind 30 = .ok (.isub, 1) := by decide +kernel
theorem dX5_behind_31 : decode cX5_behind 31 = .ok (.putfield 116, 3) := by decide +kernel
theorem dX5_behind_34 : decode cX5_behind 34 = .ok (.aload_n 0, 1) := by decide +kernel
theorem dX5_behind_35 : decode cX5_behind 35 = .ok (.getfield 45, 3) := by decide +kernel
theorem dX5_behind_38 : decode cX5_behind 38 = .ok (.aload_n 0, 1) := by decide +kernel
theorem dX5_behind_39 : decode cX5_behind 39 = .ok (.getfield 116, 3) := by decide +kernel
theorem dX5_behind_42 : decode cX5_behind 42 = .ok (.iaload, 1) := by decide +kernel
theorem dX5_behind_43 : decode cX5_behind 43 = .ok (.istore_n 2, 1) := by decide +kernel
theorem dX5_behind_44 : decode cX5_behind 44 = .ok (.goto (-42), 3) := by decide +kernel
theorem dX5_behind_47 : decode cX5_behind 47 = .ok (.iload_n 2, 1) := by decide +kernel
theorem dX5_behind_48 : decode cX5_behind 48 = .ok (.aload_n 0, 1) := by decide +kernel
theorem dX5_behind_49 : decode cX5_behind 49 = .ok (.getfield 73, 3) := by decide +kernel
theorem dX5_behind_52 : decode cX5_behind 52 = .ok (.if_icmp .ne 7, 3) := by decide +kernel
theorem dX5_behind_55 : decode cX5_behind 55 = .ok (.iconst 0, 1) := by decide +kernel
theorem dX5_behind_56 : decode cX5_behind 56 = .ok (.goto 6, 3) := by decide +kernel
theorem dX5_behind_59 : decode cX5_behind 59 = .ok (.iload_n 2, 1) := by decide +kernel
theorem dX5_behind_60 : decode cX5_behind 60 = .ok (.iconst 1, 1) := by decide +kernel
theorem dX5_behind_61 : decode cX5_behind 61 = .ok (.iadd, 1) := by decide +kernel
theorem dX5_behind_62 : decode cX5_behind 62 = .ok (.ireturn, 1) := by decide +kernel
set_option maxRecDepth 20000 in
theorem ggX5_runs_X5_keep : GoodIn wsX5_runs wsX5_keep := goodIn_r _ [18, 13, 19, 20, 21, 12, 22, 23, 1, 2, 5, 11, 6, 7, 61, 62, 63, 64, 65, 66, 67, 68, 69, 70, 71, 72, 73, 74, 75, 76, 77, 78, 79, 80, 81, 82, 83, 84, 85, 86, 87] (by decide +kernel) (by decide +kernel)
set_option maxRecDepth 20000 in
theorem gX5_runs_X5_keep : GoodIn wsX5_runs (wsV RX5 119 RX5 yX5_keep wsX5_keep) := goodIn_app (goodIn_of _ (by decide +kernel)) ggX5_runs_X5_keep
set_option maxRecDepth 20000 in
theorem ggX5_runs_X5_firstOf : GoodIn wsX5_runs wsX5_firstOf := goodIn_r _ [27, 28, 4, 61, 62, 63, 64, 65, 66, 67, 68, 69, 70, 71, 72, 73, 74, 75, 76, 77, 78, 79, 80, 81, 82, 83, 84, 85, 86, 87] (by decide +kernel) (by decide +kernel)
set_option maxRecDepth 20000 in
theorem gX5_runs_X5_firstOf : GoodIn wsX5_runs (wsV RX5 109 RX5 yX5_firstOf wsX5_firstOf) := goodIn_app (goodIn_of _ (by decide +kernel)) ggX5_runs_X5_firstOf
set_option maxRecDepth 20000 in
theorem ggX5_runs_X5_lastOf : GoodIn wsX5_runs wsX5_lastOf := goodIn_r _ [32, 28, 4, 24, 25, 26, 17, 27, 61, 62, 63, 64, 65, 66, 67, 68, 69, 70, 71, 72, 73, 74, 75, 76, 77, 78, 79, 80, 81, 82, 83, 84, 85, 86, 87] (by decide +kernel) (by decide +kernel)
set_option maxRecDepth 20000 in
theorem gX5_runs_X5_lastOf : GoodIn wsX5_runs (wsV RX5 122 RX5 yX5_lastOf wsX5_lastOf) := goodIn_app (goodIn_of _ (by decide +kernel)) ggX5_runs_X5_lastOf
set_option maxRecDepth 20000 in
theorem ggX5_runs_X5_isBad : GoodIn wsX5_runs wsX5_isBad := goodIn_r _ [36, 10, 37, 38, 39, 40, 17, 41, 42, 43, 44, 45, 11, 61, 62, 63, 64, 65, 66, 67, 68, 69, 70, 71, 72, 73, 74, 75, 76, 77, 78, 79, 80, 81, 82, 83, 84, 85, 86, 87] (by decide +kernel) (by decide +kernel)
set_option maxRecDepth 20000 in
theorem gX5_runs_X5_isBad : GoodIn wsX5_runs (wsV RX5 128 RX5 yX5_isBad wsX5_isBad) := goodIn_app (goodIn_of _ (by decide +kernel)) ggX5_runs_X5_isBad
set_option maxRecDepth 20000 in
theorem ggX5_runs_X5_says : GoodIn wsX5_runs wsX5_says := goodIn_r _ [49, 37, 11, 10, 50, 51, 42, 43, 44, 17, 45, 38, 39, 40, 41, 61, 62, 63, 64, 65, 66, 67, 68, 69, 70, 71, 72, 73, 74, 75, 76, 77, 78, 79, 80, 81, 82, 83, 84, 85, 86, 87] (by decide +kernel) (by decide +kernel)
set_option maxRecDepth 20000 in
theorem gX5_runs_X5_says : GoodIn wsX5_runs (wsV RX5 131 RX5 yX5_says wsX5_says) := goodIn_app (goodIn_of _ (by decide +kernel)) ggX5_runs_X5_says
set_option maxRecDepth 20000 in
theorem ggX5_runs_X5_become : GoodIn wsX5_runs wsX5_become := goodIn_r _ [55, 37, 10, 11, 51, 56, 61, 62, 63, 64, 65, 66, 67, 68, 69, 70, 71, 72, 73, 74, 75, 76, 77, 78, 79, 80, 81, 82, 83, 84, 85, 86, 87] (by decide +kernel) (by decide +kernel)
set_option maxRecDepth 20000 in
theorem gX5_runs_X5_become : GoodIn wsX5_runs (wsV RX5 105 RX5 yX5_become wsX5_become) := goodIn_app (goodIn_of _ (by decide +kernel)) ggX5_runs_X5_become
set_option maxRecDepth 20000 in
theorem ggX5_runs_X5_behind : GoodIn wsX5_runs wsX5_behind := goodIn_r _ [60, 5, 7, 6, 28, 61, 62, 63, 64, 65, 66, 67, 68, 69, 70, 71, 72, 73, 74, 75, 76, 77, 78, 79, 80, 81, 82, 83, 84, 85, 86, 87] (by decide +kernel) (by decide +kernel)
set_option maxRecDepth 20000 in
theorem gX5_runs_X5_behind : GoodIn wsX5_runs (wsV RX5 135 RX5 yX5_behind wsX5_behind) := goodIn_app (goodIn_of _ (by decide +kernel)) ggX5_runs_X5_behind
theorem dX5_runs_0 : decode cX5_runs 0 = .ok (.aload_n 0, 1) := by decide +kernel
theorem dX5_runs_1 : decode cX5_runs 1 = .ok (.getfield 79, 3) := by decide +kernel
theorem dX5_runs_4 : decode cX5_runs 4 = .ok (.istore_n 1, 1) := by decide +kernel
theorem dX5_runs_5 : decode cX5_runs 5 = .ok (.aload_n 0, 1) := by decide +kernel
theorem dX5_runs_6 : decode cX5_runs 6 = .ok (.getfield 16, 3) := by decide +kernel
theorem dX5_runs_9 : decode cX5_runs 9 = .ok (.iload_n 1, 1) := by decide +kernel
theorem dX5_runs_10 : decode cX5_runs 10 = .ok (.iaload, 1) := by decide +kernel
theorem dX5_runs_11 : decode cX5_runs 11 = .ok (.istore_n 2, 1) := by decide +kernel
theorem dX5_runs_12 : decode cX5_runs 12 = .ok (.aload_n 0, 1) := by decide +kernel
theorem dX5_runs_13 : decode cX5_runs 13 = .ok (.invokevirtual 119, 3) := by decide +kernel
theorem dX5_runs_16 : decode cX5_runs 16 = .ok (.aload_n 0, 1) := by decide +kernel
theorem dX5_runs_17 : decode cX5_runs 17 = .ok (.getfield 42, 3) := by decide +kernel
theorem dX5_runs_20 : decode cX5_runs 20 = .ok (.aload_n 0, 1) := by decide +kernel
theorem dX5_runs_21 : decode cX5_runs 21 = .ok (.getfield 7, 3) := by decide +kernel
theorem dX5_runs_24 : decode cX5_runs 24 = .ok (.iload_n 1, 1) := by decide +kernel
theorem dX5_runs_25 : decode cX5_runs 25 = .ok (.iaload, 1) := by decide +kernel
theorem dX5_runs_26 : decode cX5_runs 26 = .ok (.dup2, 1) := by decide +kernel
theorem dX5_runs_27 : decode cX5_runs 27 = .ok (.iaload, 1) := by decide +kernel
theorem dX5_runs_28 : decode cX5_runs 28 = .ok (.iconst 1, 1) := by decide +kernel
theorem dX5_runs_29 : decode cX5_runs 29 = .ok (.iadd, 1) := by decide +kernel
theorem dX5_runs_30 : decode cX5_runs 30 = .ok (.iastore, 1) := by decide +kernel
theorem dX5_runs_31 : decode cX5_runs 31 = .ok (.iload_n 2, 1) := by decide +kernel
theorem dX5_runs_32 : decode cX5_runs 32 = .ok (.iconst (-1), 1) := by decide +kernel
theorem dX5_runs_33 : decode cX5_runs 33 = .ok (.if_icmp .ge 79, 3) := by decide +kernel
theorem dX5_runs_36 : decode cX5_runs 36 = .ok (.aload_n 0, 1) := by decide +kernel
theorem dX5_runs_37 : decode cX5_runs 37 = .ok (.bipush (-2), 2) := by decide +kernel
theorem dX5_runs_39 : decode cX5_runs 39 = .ok (.iload_n 2, 1) := by decide +kernel
theorem dX5_runs_40 : decode cX5_runs 40 = .ok (.isub, 1) := by decide +kernel
theorem dX5_runs_41 : decode cX5_runs 41 = .ok (.invokevirtual 109, 3) := by decide +kernel
theorem dX5_runs_44 : decode cX5_runs 44 = .ok (.istore_n 3, 1) := by decide +kernel
theorem dX5_runs_45 : decode cX5_runs 45 = .ok (.iload_n 3, 1) := by decide +kernel
theorem dX5_runs_46 : decode cX5_runs 46 = .ok (.ifCond .le 56, 3) := by decide +kernel
theorem dX5_runs_49 : decode cX5_runs 49 = .ok (.aload_n 0, 1) := by decide +kernel
theorem dX5_runs_50 : decode cX5_runs 50 = .ok (.getfield 116, 3) := by decide +kernel
theorem dX5_runs_53 : decode cX5_runs 53 = .ok (.bipush 20, 2) := by decide +kernel
theorem dX5_runs_55 : decode cX5_runs 55 = .ok (.if_icmp .ge 47, 3) := by decide +kernel
theorem dX5_runs_58 : decode cX5_runs 58 = .ok (.aload_n 0, 1) := by decide +kernel
theorem dX5_runs_59 : decode cX5_runs 59 = .ok (.getfield 45, 3) := by decide +kernel
theorem dX5_runs_62 : decode cX5_runs 62 = .ok (.aload_n 0, 1) := by decide +kernel
theorem dX5_runs_63 : decode cX5_runs 63 = .ok (.getfield 116, 3) := by decide +kernel
theorem dX5_runs_66 : decode cX5_runs 66 = .ok (.iload_n 1, 1) := by decide +kernel
theorem dX5_runs_67 : decode cX5_runs 67 = .ok (.iastore, 1) := by decide +kernel
theorem dX5_runs_68 : decode cX5_runs 68 = .ok (.aload_n 0, 1) := by decide +kernel
theorem dX5_runs_69 : decode cX5_runs 69 = .ok (.getfield 48, 3) := by decide +kernel
theorem dX5_runs_72 : decode cX5_runs 72 = .ok (.aload_n 0, 1) := by decide +kernel
theorem dX5_runs_73 : decode cX5_runs 73 = .ok (.getfield 116, 3) := by decide +kernel
theorem dX5_runs_76 : decode cX5_runs 76 = .ok (.aload_n 0, 1) := by decide +kernel
theorem dX5_runs_77 : decode cX5_runs 77 = .ok (.bipush (-2), 2) := by decide +kernel
theorem dX5_runs_79 : decode cX5_runs 79 = .ok (.iload_n 2, 1) := by decide +kernel
theorem dX5_runs_80 : decode cX5_runs 80 = .ok (.isub, 1) := by decide +kernel
theorem dX5_runs_81 : decode cX5_runs 81 = .ok (.invokevirtual 122, 3) := by decide +kernel
theorem dX5_runs_84 : decode cX5_runs 84 = .ok (.iastore, 1) := by decide +kernel
theorem dX5_runs_85 : decode cX5_runs 85 = .ok (.aload_n 0, 1) := by decide +kernel
theorem dX5_runs_86 : decode cX5_runs 86 = .ok (.dup, 1) := by decide +kernel
theorem dX5_runs_87 : decode cX5_runs 87 = .ok (.getfield 116, 3) := by decide +kernel
theorem dX5_runs_90 : decode cX5_runs 90 = .ok (.iconst 1, 1) := by decide +kernel
theorem dX5_runs_91 : decode cX5_runs 91 = .ok (.iadd, 1) := by decide +kernel
theorem dX5_runs_92 : decode cX5_runs 92 = .ok (.putfield 116, 3) := by decide +kernel
theorem dX5_runs_95 : decode cX5_runs 95 = .ok (.aload_n 0, 1) := by decide +kernel
theorem dX5_runs_96 : decode cX5_runs 96 = .ok (.iload_n 3, 1) := by decide +kernel
theorem dX5_runs_97 : decode cX5_runs 97 = .ok (.putfield 79, 3) := by decide +kernel
theorem dX5_runs_100 : decode cX5_runs 100 = .ok (.iconst 0, 1) := by decide +kernel
theorem dX5_runs_101 : decode cX5_runs 101 = .ok (.ireturn, 1) := by decide +kernel
theorem dX5_runs_102 : decode cX5_runs 102 = .ok (.aload_n 0, 1) := by decide +kernel
theorem dX5_runs_103 : decode cX5_runs 103 = .ok (.dup, 1) := by decide +kernel
theorem dX5_runs_104 : decode cX5_runs 104 = .ok (.getfield 125, 3) := by decide +kernel
theorem dX5_runs_107 : decode cX5_runs 107 = .ok (.iconst 1, 1) := by decide +kernel
theorem dX5_runs_108 : decode cX5_runs 108 = .ok (.iadd, 1) := by decide +kernel
theorem dX5_runs_109 : decode cX5_runs 109 = .ok (.putfield 125, 3) := by decide +kernel
theorem dX5_runs_112 : decode cX5_runs 112 = .ok (.iconst 0, 1) := by decide +kernel
theorem dX5_runs_113 : decode cX5_runs 113 = .ok (.istore_n 3, 1) := by decide +kernel
theorem dX5_runs_114 : decode cX5_runs 114 = .ok (.iload_n 2, 1) := by decide +kernel
theorem dX5_runs_115 : decode cX5_runs 115 = .ok (.ifCond .lt 103, 3) := by decide +kernel
theorem dX5_runs_118 : decode cX5_runs 118 = .ok (.aload_n 0, 1) := by decide +kernel
theorem dX5_runs_119 : decode cX5_runs 119 = .ok (.iload_n 2, 1) := by decide +kernel
theorem dX5_runs_120 : decode cX5_runs 120 = .ok (.invokevirtual 128, 3) := by decide +kernel
theorem dX5_runs_123 : decode cX5_runs 123 = .ok (.ifCond .eq 16, 3) := by decide +kernel
theorem dX5_runs_126 : decode cX5_runs 126 = .ok (.aload_n 0, 1) := by decide +kernel
theorem dX5_runs_127 : decode cX5_runs 127 = .ok (.dup, 1) := by decide +kernel
theorem dX5_runs_128 : decode cX5_runs 128 = .ok (.getfield 125, 3) := by decide +kernel
theorem dX5_runs_131 : decode cX5_runs 131 = .ok (.iconst 1, 1) := by decide +kernel
theorem dX5_runs_132 : decode cX5_runs 132 = .ok (.iadd, 1) := by decide +kernel
theorem dX5_runs_133 : decode cX5_runs 133 = .ok (.putfield 125, 3) := by decide +kernel
theorem dX5_runs_136 : decode cX5_runs 136 = .ok (.goto 20, 3) := by decide +kernel
theorem dX5_runs_139 : decode cX5_runs 139 = .ok (.aload_n 0, 1) := by decide +kernel
theorem dX5_runs_140 : decode cX5_runs 140 = .ok (.iload_n 2, 1) := by decide +kernel
theorem dX5_runs_141 : decode cX5_runs 141 = .ok (.aload_n 0, 1) := by decide +kernel
theorem dX5_runs_142 : decode cX5_runs 142 = .ok (.iload_n 2, 1) := by decide +kernel
theorem dX5_runs_143 : decode cX5_runs 143 = .ok (.invokevirtual 131, 3) := by decide +kernel
theorem dX5_runs_146 : decode cX5_runs 146 = .ok (.aload_n 0, 1) := by decide +kernel
theorem dX5_runs_147 : decode cX5_runs 147 = .ok (.getfield 19, 3) := by decide +kernel
theorem dX5_runs_150 : decode cX5_runs 150 = .ok (.iload_n 1, 1) := by decide +kernel
theorem dX5_runs_151 : decode cX5_runs 151 = .ok (.laload, 1) := by decide +kernel
theorem dX5_runs_152 : decode cX5_runs 152 = .ok (.ladd, 1) := by decide +kernel
theorem dX5_runs_153 : decode cX5_runs 153 = .ok (.invokevirtual 105, 3) := by decide +kernel
theorem dX5_runs_156 : decode cX5_runs 156 = .ok (.iconst 0, 1) := by decide +kernel
theorem dX5_runs_157 : decode cX5_runs 157 = .ok (.istore 4, 2) := by decide +kernel
theorem dX5_runs_159 : decode cX5_runs 159 = .ok (.iload 4, 2) := by decide +kernel
theorem dX5_runs_161 : decode cX5_runs 161 = .ok (.aload_n 0, 1) := by decide +kernel
theorem dX5_runs_162 : decode cX5_runs 162 = .ok (.getfield 26, 3) := by decide +kernel
theorem dX5_runs_165 : decode cX5_runs 165 = .ok (.iload_n 2, 1) := by decide +kernel
theorem dX5_runs_166 : decode cX5_runs 166 = .ok (.iaload, 1) := by decide +kernel
theorem dX5_runs_167 : decode cX5_runs 167 = .ok (.if_icmp .ge 51, 3) := by decide +kernel
theorem dX5_runs_170 : decode cX5_runs 170 = .ok (.iload_n 3, 1) := by decide +kernel
theorem dX5_runs_171 : decode cX5_runs 171 = .ok (.ifCond .ne 35, 3) := by decide +kernel
theorem dX5_runs_174 : decode cX5_runs 174 = .ok (.aload_n 0, 1) := by decide +kernel
theorem dX5_runs_175 : decode cX5_runs 175 = .ok (.getfield 29, 3) := by decide +kernel
theorem dX5_runs_178 : decode cX5_runs 178 = .ok (.bipush 9, 2) := by decide +kernel
theorem dX5_runs_180 : decode cX5_runs 180 = .ok (.iload_n 2, 1) := by decide +kernel
theorem dX5_runs_181 : decode cX5_runs 181 = .ok (.imul, 1) := by decide +kernel
theorem dX5_runs_182 : decode cX5_runs 182 = .ok (.iload 4, 2) := by decide +kernel
theorem dX5_runs_184 : decode cX5_runs 184 = .ok (.iadd, 1) := by decide +kernel
theorem dX5_runs_185 : decode cX5_runs 185 = .ok (.baload, 1) := by decide +kernel
theorem dX5_runs_186 : decode cX5_runs 186 = .ok (.aload_n 0, 1) := by decide +kernel
theorem dX5_runs_187 : decode cX5_runs 187 = .ok (.getfield 66, 3) := by decide +kernel
theorem dX5_runs_190 : decode cX5_runs 190 = .ok (.bipush 9, 2) := by decide +kernel
theorem dX5_runs_192 : decode cX5_runs 192 = .ok (.aload_n 0, 1) := by decide +kernel
theorem dX5_runs_193 : decode cX5_runs 193 = .ok (.getfield 113, 3) := by decide +kernel
theorem dX5_runs_196 : decode cX5_runs 196 = .ok (.iconst 1, 1) := by decide +kernel
theorem dX5_runs_197 : decode cX5_runs 197 = .ok (.isub, 1) := by decide +kernel
theorem dX5_runs_198 : decode cX5_runs 198 = .ok (.imul, 1) := by decide +kernel
theorem dX5_runs_199 : decode cX5_runs 199 = .ok (.iload 4, 2) := by decide +kernel
theorem dX5_runs_201 : decode cX5_runs 201 = .ok (.iadd, 1) := by decide +kernel
theorem dX5_runs_202 : decode cX5_runs 202 = .ok (.baload, 1) := by decide +kernel
theorem dX5_runs_203 : decode cX5_runs 203 = .ok (.if_icmp .eq 7, 3) := by decide +kernel
theorem dX5_runs_206 : decode cX5_runs 206 = .ok (.iconst 1, 1) := by decide +kernel
theorem dX5_runs_207 : decode cX5_runs 207 = .ok (.goto 4, 3) := by decide +kernel
theorem dX5_runs_210 : decode cX5_runs 210 = .ok (.iconst 0, 1) := by decide +kernel
theorem dX5_runs_211 : decode cX5_runs 211 = .ok (.istore_n 3, 1) := by decide +kernel
theorem dX5_runs_212 : decode cX5_runs 212 = .ok (.iinc 4 1, 3) := by decide +kernel
theorem dX5_runs_215 : decode cX5_runs 215 = .ok (.goto (-56), 3) := by decide +kernel
theorem dX5_runs_218 : decode cX5_runs 218 = .ok (.aload_n 0, 1) := by decide +kernel
theorem dX5_runs_219 : decode cX5_runs 219 = .ok (.aload_n 0, 1) := by decide +kernel
theorem dX5_runs_220 : decode cX5_runs 220 = .ok (.iload_n 1, 1) := by decide +kernel
theorem dX5_runs_221 : decode cX5_runs 221 = .ok (.invokevirtual 135, 3) := by decide +kernel
theorem dX5_runs_224 : decode cX5_runs 224 = .ok (.putfield 79, 3) := by decide +kernel
theorem dX5_runs_227 : decode cX5_runs 227 = .ok (.iload_n 3, 1) := by decide +kernel
theorem dX5_runs_228 : decode cX5_runs 228 = .ok (.ireturn, 1) := by decide +kernel
set_option maxRecDepth 20000 in
theorem ggX5_isMet_X5_isBad : GoodIn wsX5_isMet wsX5_isBad := goodIn_r _ [8, 9, 10, 11, 12, 13, 7, 14, 15, 16, 17, 18, 19, 26, 27, 28, 29, 30, 31, 32, 33, 34, 35, 36, 37, 38, 39, 40, 41, 42, 43, 44, 45, 46, 47, 48, 49, 50, 51, 52] (by decide +kernel) (by decide +kernel)
set_option maxRecDepth 20000 in
theorem gX5_isMet_X5_isBad : GoodIn wsX5_isMet (wsV RX5 128 RX5 yX5_isBad wsX5_isBad) := goodIn_app (goodIn_of _ (by decide +kernel)) ggX5_isMet_X5_isBad
set_option maxRecDepth 20000 in
theorem ggX5_isMet_X5_says : GoodIn wsX5_isMet wsX5_says := goodIn_r _ [23, 10, 19, 9, 24, 25, 15, 16, 17, 7, 18, 11, 12, 13, 14, 26, 27, 28, 29, 30, 31, 32, 33, 34, 35, 36, 37, 38, 39, 40, 41, 42, 43, 44, 45, 46, 47, 48, 49, 50, 51, 52] (by decide +kernel) (by decide +kernel)
set_option maxRecDepth 20000 in
theorem gX5_isMet_X5_says : GoodIn wsX5_isMet (wsV RX5 131 RX5 yX5_says wsX5_says) := goodIn_app (goodIn_of _ (by decide +kernel)) ggX5_isMet_X5_says
theorem dX5_isMet_0 : decode cX5_isMet 0 = .ok (.aload_n 0, 1) := by decide +kernel
theorem dX5_isMet_1 : decode cX5_isMet 1 = .ok (.getfield 33, 3) := by decide +kernel
theorem dX5_isMet_4 : decode cX5_isMet 4 = .ok (.iload_n 1, 1) := by decide +kernel
theorem dX5_isMet_5 : decode cX5_isMet 5 = .ok (.iaload, 1) := by decide +kernel
theorem dX5_isMet_6 : decode cX5_isMet 6 = .ok (.istore 4, 2) := by decide +kernel
theorem dX5_isMet_8 : decode cX5_isMet 8 = .ok (.aload_n 0, 1) := by decide +kernel
theorem dX5_isMet_9 : decode cX5_isMet 9 = .ok (.getfield 36, 3) := by decide +kernel
theorem dX5_isMet_12 : decode cX5_isMet 12 = .ok (.iload_n 1, 1) := by decide +kernel
theorem dX5_isMet_13 : decode cX5_isMet 13 = .ok (.iaload, 1) := by decide +kernel
theorem dX5_isMet_14 : decode cX5_isMet 14 = .ok (.istore 5, 2) := by decide +kernel
theorem dX5_isMet_16 : decode cX5_isMet 16 = .ok (.iload 4, 2) := by decide +kernel
theorem dX5_isMet_18 : decode cX5_isMet 18 = .ok (.iconst 2, 1) := by decide +kernel
theorem dX5_isMet_19 : decode cX5_isMet 19 = .ok (.if_icmp .ne 19, 3) := by decide +kernel
theorem dX5_isMet_22 : decode cX5_isMet 22 = .ok (.iload_n 3, 1) := by decide +kernel
theorem dX5_isMet_23 : decode cX5_isMet 23 = .ok (.ifCond .eq 13, 3) := by decide +kernel
theorem dX5_isMet_26 : decode cX5_isMet 26 = .ok (.iload_n 2, 1) := by decide +kernel
theorem dX5_isMet_27 : decode cX5_isMet 27 = .ok (.iload 5, 2) := by decide +kernel
theorem dX5_isMet_29 : decode cX5_isMet 29 = .ok (.if_icmp .ne 7, 3) := by decide +kernel
theorem dX5_isMet_32 : decode cX5_isMet 32 = .ok (.iconst 1, 1) := by decide +kernel
theorem dX5_isMet_33 : decode cX5_isMet 33 = .ok (.goto 4, 3) := by decide +kernel
theorem dX5_isMet_36 : decode cX5_isMet 36 = .ok (.iconst 0, 1) := by decide +kernel
theorem dX5_isMet_37 : decode cX5_isMet 37 = .ok (.ireturn, 1) := by decide +kernel
theorem dX5_isMet_38 : decode cX5_isMet 38 = .ok (.iload 4, 2) := by decide +kernel
theorem dX5_isMet_40 : decode cX5_isMet 40 = .ok (.iconst 3, 1) := by decide +kernel
theorem dX5_isMet_41 : decode cX5_isMet 41 = .ok (.if_icmp .ne 33, 3) := by decide +kernel
theorem dX5_isMet_44 : decode cX5_isMet 44 = .ok (.aload_n 0, 1) := by decide +kernel
theorem dX5_isMet_45 : decode cX5_isMet 45 = .ok (.iload 5, 2) := by decide +kernel
theorem dX5_isMet_47 : decode cX5_isMet 47 = .ok (.invokevirtual 128, 3) := by decide +kernel
theorem dX5_isMet_50 : decode cX5_isMet 50 = .ok (.ifCond .ne 24, 3) := by decide +kernel
theorem dX5_isMet_53 : decode cX5_isMet 53 = .ok (.aload_n 0, 1) := by decide +kernel
theorem dX5_isMet_54 : decode cX5_isMet 54 = .ok (.iload 5, 2) := by decide +kernel
theorem dX5_isMet_56 : decode cX5_isMet 56 = .ok (.invokevirtual 131, 3) := by decide +kernel
theorem dX5_isMet_59 : decode cX5_isMet 59 = .ok (.aload_n 0, 1) := by decide +kernel
theorem dX5_isMet_60 : decode cX5_isMet 60 = .ok (.getfield 39, 3) := by decide +kernel
theorem dX5_isMet_63 : decode cX5_isMet 63 = .ok (.iload_n 1, 1) := by decide +kernel
theorem dX5_isMet_64 : decode cX5_isMet 64 = .ok (.iaload, 1) := by decide +kernel
theorem dX5_isMet_65 : decode cX5_isMet 65 = .ok (.i2l, 1) := by decide +kernel
theorem dX5_isMet_66 : decode cX5_isMet 66 = .ok (.lcmp, 1) := by decide +kernel
theorem dX5_isMet_67 : decode cX5_isMet 67 = .ok (.ifCond .lt 7, 3) := by decide +kernel
theorem dX5_isMet_70 : decode cX5_isMet 70 = .ok (.iconst 1, 1) := by decide +kernel
theorem dX5_isMet_71 : decode cX5_isMet 71 = .ok (.goto 4, 3) := by decide +kernel
theorem dX5_isMet_74 : decode cX5_isMet 74 = .ok (.iconst 0, 1) := by decide +kernel
theorem dX5_isMet_75 : decode cX5_isMet 75 = .ok (.ireturn, 1) := by decide +kernel
set_option maxRecDepth 20000 in
theorem ggX5_isAhead_X5_firstOf : GoodIn wsX5_isAhead wsX5_firstOf := goodIn_r _ [9, 10, 11, 12, 13, 14, 15, 16, 17, 18, 19, 20, 21, 22, 23, 24, 25, 26, 27, 28, 29, 30, 31, 32, 33, 34, 35, 36, 37, 38] (by decide +kernel) (by decide +kernel)
set_option maxRecDepth 20000 in
theorem gX5_isAhead_X5_firstOf : GoodIn wsX5_isAhead (wsV RX5 109 RX5 yX5_firstOf wsX5_firstOf) := goodIn_app (goodIn_of _ (by decide +kernel)) ggX5_isAhead_X5_firstOf
theorem dX5_isAhead_0 : decode cX5_isAhead 0 = .ok (.aload_n 0, 1) := by decide +kernel
theorem dX5_isAhead_1 : decode cX5_isAhead 1 = .ok (.getfield 33, 3) := by decide +kernel
theorem dX5_isAhead_4 : decode cX5_isAhead 4 = .ok (.iload_n 1, 1) := by decide +kernel
theorem dX5_isAhead_5 : decode cX5_isAhead 5 = .ok (.iaload, 1) := by decide +kernel
theorem dX5_isAhead_6 : decode cX5_isAhead 6 = .ok (.istore_n 2, 1) := by decide +kernel
theorem dX5_isAhead_7 : decode cX5_isAhead 7 = .ok (.iload_n 2, 1) := by decide +kernel
theorem dX5_isAhead_8 : decode cX5_isAhead 8 = .ok (.ifCond .ne 26, 3) := by decide +kernel
theorem dX5_isAhead_11 : decode cX5_isAhead 11 = .ok (.aload_n 0, 1) := by decide +kernel
theorem dX5_isAhead_12 : decode cX5_isAhead 12 = .ok (.getfield 79, 3) := by decide +kernel
theorem dX5_isAhead_15 : decode cX5_isAhead 15 = .ok (.aload_n 0, 1) := by decide +kernel
theorem dX5_isAhead_16 : decode cX5_isAhead 16 = .ok (.aload_n 0, 1) := by decide +kernel
theorem dX5_isAhead_17 : decode cX5_isAhead 17 = .ok (.getfield 36, 3) := by decide +kernel
theorem dX5_isAhead_20 : decode cX5_isAhead 20 = .ok (.iload_n 1, 1) := by decide +kernel
theorem dX5_isAhead_21 : decode cX5_isAhead 21 = .ok (.iaload, 1) := by decide +kernel
theorem dX5_isAhead_22 : decode cX5_isAhead 22 = .ok (.invokevirtual 109, 3) := by decide +kernel
theorem dX5_isAhead_25 : decode cX5_isAhead 25 = .ok (.if_icmp .ne 7, 3) := by decide +kernel
theorem dX5_isAhead_28 : decode cX5_isAhead 28 = .ok (.iconst 1, 1) := by decide +kernel
theorem dX5_isAhead_29 : decode cX5_isAhead 29 = .ok (.goto 4, 3) := by decide +kernel
theorem dX5_isAhead_32 : decode cX5_isAhead 32 = .ok (.iconst 0, 1) := by decide +kernel
theorem dX5_isAhead_33 : decode cX5_isAhead 33 = .ok (.ireturn, 1) := by decide +kernel
theorem dX5_isAhead_34 : decode cX5_isAhead 34 = .ok (.iload_n 2, 1) := by decide +kernel
theorem dX5_isAhead_35 : decode cX5_isAhead 35 = .ok (.iconst 1, 1) := by decide +kernel
theorem dX5_isAhead_36 : decode cX5_isAhead 36 = .ok (.if_icmp .ne 25, 3) := by decide +kernel
theorem dX5_isAhead_39 : decode cX5_isAhead 39 = .ok (.aload_n 0, 1) := by decide +kernel
theorem dX5_isAhead_40 : decode cX5_isAhead 40 = .ok (.getfield 13, 3) := by decide +kernel
theorem dX5_isAhead_43 : decode cX5_isAhead 43 = .ok (.aload_n 0, 1) := by decide +kernel
theorem dX5_isAhead_44 : decode cX5_isAhead 44 = .ok (.getfield 79, 3) := by decide +kernel
theorem dX5_isAhead_47 : decode cX5_isAhead 47 = .ok (.iaload, 1) := by decide +kernel
theorem dX5_isAhead_48 : decode cX5_isAhead 48 = .ok (.aload_n 0, 1) := by decide +kernel
theorem dX5_isAhead_49 : decode cX5_isAhead 49 = .ok (.getfield 36, 3) := by decide +kernel
theorem dX5_isAhead_52 : decode cX5_isAhead 52 = .ok (.iload_n 1, 1) := by decide +kernel
theorem dX5_isAhead_53 : decode cX5_isAhead 53 = .ok (.iaload, 1) := by decide +kernel
theorem dX5_isAhead_54 : decode cX5_isAhead 54 = .ok (.if_icmp .ne 7, 3) := by decide +kernel
theorem dX5_isAhead_57 : decode cX5_isAhead 57 = .ok (.iconst 1, 1) := by decide +kernel
theorem dX5_isAhead_58 : decode cX5_isAhead 58 = .ok (.goto 4, 3) := by decide +kernel
theorem dX5_isAhead_61 : decode cX5_isAhead 61 = .ok (.iconst 0, 1) := by decide +kernel
theorem dX5_isAhead_62 : decode cX5_isAhead 62 = .ok (.ireturn, 1) := by decide +kernel
set_option maxRecDepth 20000 in
theorem ggX5_run_X5_isAhead : GoodIn wsX5_run wsX5_isAhead := goodIn_r _ [9, 10, 2, 11, 12, 13, 14, 15, 8, 16, 17, 18, 79, 80, 81, 82, 83, 84, 85, 86, 87, 88, 89, 90, 91, 92, 93, 94, 95, 96, 97, 98, 99, 100, 101, 102, 103, 104, 105] (by decide +kernel) (by decide +kernel)
set_option maxRecDepth 20000 in
theorem gX5_run_X5_isAhead : GoodIn wsX5_run (wsV RX5 138 RX5 yX5_isAhead wsX5_isAhead) := goodIn_app (goodIn_of _ (by decide +kernel)) ggX5_run_X5_isAhead
set_option maxRecDepth 20000 in
theorem ggX5_run_X5_runs : GoodIn wsX5_run wsX5_runs := goodIn_r _ [22, 2, 4, 23, 18, 24, 25, 26, 27, 28, 29, 30, 31, 32, 33, 34, 35, 8, 36, 37, 38, 39, 40, 41, 13, 14, 15, 16, 17, 42, 43, 44, 45, 46, 47, 48, 49, 50, 51, 52, 53, 54, 55, 56, 57, 58, 59, 60, 61, 62, 63, 64, 65, 66, 67, 68, 69, 70, 71, 72, 73, 79, 80, 81, 82, 83, 84, 85, 86, 87, 88, 89, 90, 91, 92, 93, 94, 95, 96, 97, 98, 99, 100, 101, 102, 103, 104, 105] (by decide +kernel) (by decide +kernel)
set_option maxRecDepth 20000 in
theorem gX5_run_X5_runs : GoodIn wsX5_run (wsV RX5 141 RX5 yX5_runs wsX5_runs) := goodIn_app (goodIn_of _ (by decide +kernel)) ggX5_run_X5_runs
set_option maxRecDepth 20000 in
theorem ggX5_run_X5_isMet : GoodIn wsX5_run wsX5_isMet := goodIn_r _ [77, 10, 11, 78, 46, 47, 48, 8, 49, 29, 50, 51, 52, 53, 54, 55, 56, 57, 58, 30, 59, 60, 61, 62, 63, 64, 79, 80, 81, 82, 83, 84, 85, 86, 87, 88, 89, 90, 91, 92, 93, 94, 95, 96, 97, 98, 99, 100, 101, 102, 103, 104, 105] (by decide +kernel) (by decide +kernel)
set_option maxRecDepth 20000 in
theorem gX5_run_X5_isMet : GoodIn wsX5_run (wsV RX5 145 RX5 yX5_isMet wsX5_isMet) := goodIn_app (goodIn_of _ (by decide +kernel)) ggX5_run_X5_isMet
theorem dX5_run_0 : decode cX5_run 0 = .ok (.aload_n 0, 1) := by decide +kernel
theorem dX5_run_1 : decode cX5_run 1 = .ok (.iconst 0, 1) := by decide +kernel
theorem dX5_run_2 : decode cX5_run 2 = .ok (.putfield 69, 3) := by decide +kernel
theorem dX5_run_5 : decode cX5_run 5 = .ok (.iload_n 1, 1) := by decide +kernel
theorem dX5_run_6 : decode cX5_run 6 = .ok (.ifCond .lt 10, 3) := by decide +kernel
theorem dX5_run_9 : decode cX5_run 9 = .ok (.iload_n 1, 1) := by decide +kernel
theorem dX5_run_10 : decode cX5_run 10 = .ok (.sipush 200, 3) := by decide +kernel
theorem dX5_run_13 : decode cX5_run 13 = .ok (.if_icmp .le 6, 3) := by decide +kernel
theorem dX5_run_16 : decode cX5_run 16 = .ok (.bipush (-4), 2) := by decide +kernel
theorem dX5_run_18 : decode cX5_run 18 = .ok (.ireturn, 1) := by decide +kernel
theorem dX5_run_19 : decode cX5_run 19 = .ok (.iconst 0, 1) := by decide +kernel
theorem dX5_run_20 : decode cX5_run 20 = .ok (.istore_n 2, 1) := by decide +kernel
theorem dX5_run_21 : decode cX5_run 21 = .ok (.iload_n 2, 1) := by decide +kernel
theorem dX5_run_22 : decode cX5_run 22 = .ok (.iload_n 1, 1) := by decide +kernel
theorem dX5_run_23 : decode cX5_run 23 = .ok (.if_icmp .ge 95, 3) := by decide +kernel
theorem dX5_run_26 : decode cX5_run 26 = .ok (.aload_n 0, 1) := by decide +kernel
theorem dX5_run_27 : decode cX5_run 27 = .ok (.getfield 79, 3) := by decide +kernel
theorem dX5_run_30 : decode cX5_run 30 = .ok (.ifCond .eq 88, 3) := by decide +kernel
theorem dX5_run_33 : decode cX5_run 33 = .ok (.iconst 1, 1) := by decide +kernel
theorem dX5_run_34 : decode cX5_run 34 = .ok (.istore_n 3, 1) := by decide +kernel
theorem dX5_run_35 : decode cX5_run 35 = .ok (.iload_n 3, 1) := by decide +kernel
theorem dX5_run_36 : decode cX5_run 36 = .ok (.aload_n 0, 1) := by decide +kernel
theorem dX5_run_37 : decode cX5_run 37 = .ok (.getfield 89, 3) := by decide +kernel
theorem dX5_run_40 : decode cX5_run 40 = .ok (.if_icmp .gt 23, 3) := by decide +kernel
theorem dX5_run_43 : decode cX5_run 43 = .ok (.iload_n 2, 1) := by decide +kernel
theorem dX5_run_44 : decode cX5_run 44 = .ok (.ifCond .le 19, 3) := by decide +kernel
theorem dX5_run_47 : decode cX5_run 47 = .ok (.aload_n 0, 1) := by decide +kernel
theorem dX5_run_48 : decode cX5_run 48 = .ok (.iload_n 3, 1) := by decide +kernel
theorem dX5_run_49 : decode cX5_run 49 = .ok (.invokevirtual 138, 3) := by decide +kernel
theorem dX5_run_52 : decode cX5_run 52 = .ok (.ifCond .eq 5, 3) := by decide +kernel
theorem dX5_run_55 : decode cX5_run 55 = .ok (.iload_n 3, 1) := by decide +kernel
theorem dX5_run_56 : decode cX5_run 56 = .ok (.ireturn, 1) := by decide +kernel
theorem dX5_run_57 : decode cX5_run 57 = .ok (.iinc 3 1, 3) := by decide +kernel
theorem dX5_run_60 : decode cX5_run 60 = .ok (.goto (-25), 3) := by decide +kernel
theorem dX5_run_63 : decode cX5_run 63 = .ok (.aload_n 0, 1) := by decide +kernel
theorem dX5_run_64 : decode cX5_run 64 = .ok (.getfield 16, 3) := by decide +kernel
theorem dX5_run_67 : decode cX5_run 67 = .ok (.aload_n 0, 1) := by decide +kernel
theorem dX5_run_68 : decode cX5_run 68 = .ok (.getfield 79, 3) := by decide +kernel
theorem dX5_run_71 : decode cX5_run 71 = .ok (.iaload, 1) := by decide +kernel
theorem dX5_run_72 : decode cX5_run 72 = .ok (.istore_n 3, 1) := by decide +kernel
theorem dX5_run_73 : decode cX5_run 73 = .ok (.aload_n 0, 1) := by decide +kernel
theorem dX5_run_74 : decode cX5_run 74 = .ok (.invokevirtual 141, 3) := by decide +kernel
theorem dX5_run_77 : decode cX5_run 77 = .ok (.istore 4, 2) := by decide +kernel
theorem dX5_run_79 : decode cX5_run 79 = .ok (.iconst 1, 1) := by decide +kernel
theorem dX5_run_80 : decode cX5_run 80 = .ok (.istore 5, 2) := by decide +kernel
theorem dX5_run_82 : decode cX5_run 82 = .ok (.iload 5, 2) := by decide +kernel
theorem dX5_run_84 : decode cX5_run 84 = .ok (.aload_n 0, 1) := by decide +kernel
theorem dX5_run_85 : decode cX5_run 85 = .ok (.getfield 89, 3) := by decide +kernel
theorem dX5_run_88 : decode cX5_run 88 = .ok (.if_icmp .gt 24, 3) := by decide +kernel
theorem dX5_run_91 : decode cX5_run 91 = .ok (.aload_n 0, 1) := by decide +kernel
theorem dX5_run_92 : decode cX5_run 92 = .ok (.iload 5, 2) := by decide +kernel
theorem dX5_run_94 : decode cX5_run 94 = .ok (.iload_n 3, 1) := by decide +kernel
theorem dX5_run_95 : decode cX5_run 95 = .ok (.iload 4, 2) := by decide +kernel
theorem dX5_run_97 : decode cX5_run 97 = .ok (.invokevirtual 145, 3) := by decide +kernel
theorem dX5_run_100 : decode cX5_run 100 = .ok (.ifCond .eq 6, 3) := by decide +kernel
theorem dX5_run_103 : decode cX5_run 103 = .ok (.iload 5, 2) := by decide +kernel
theorem dX5_run_105 : decode cX5_run 105 = .ok (.ireturn, 1) := by decide +kernel
theorem dX5_run_106 : decode cX5_run 106 = .ok (.iinc 5 1, 3) := by decide +kernel
theorem dX5_run_109 : decode cX5_run 109 = .ok (.goto (-27), 3) := by decide +kernel
theorem dX5_run_112 : decode cX5_run 112 = .ok (.iinc 2 1, 3) := by decide +kernel
theorem dX5_run_115 : decode cX5_run 115 = .ok (.goto (-94), 3) := by decide +kernel
theorem dX5_run_118 : decode cX5_run 118 = .ok (.iconst 0, 1) := by decide +kernel
theorem dX5_run_119 : decode cX5_run 119 = .ok (.ireturn, 1) := by decide +kernel
theorem dX5_back_0 : decode cX5_back 0 = .ok (.aload_n 0, 1) := by decide +kernel
theorem dX5_back_1 : decode cX5_back 1 = .ok (.iconst 0, 1) := by decide +kernel
theorem dX5_back_2 : decode cX5_back 2 = .ok (.putfield 69, 3) := by decide +kernel
theorem dX5_back_5 : decode cX5_back 5 = .ok (.iload_n 1, 1) := by decide +kernel
theorem dX5_back_6 : decode cX5_back 6 = .ok (.ifCond .lt 11, 3) := by decide +kernel
theorem dX5_back_9 : decode cX5_back 9 = .ok (.iload_n 1, 1) := by decide +kernel
theorem dX5_back_10 : decode cX5_back 10 = .ok (.aload_n 0, 1) := by decide +kernel
theorem dX5_back_11 : decode cX5_back 11 = .ok (.getfield 113, 3) := by decide +kernel
theorem dX5_back_14 : decode cX5_back 14 = .ok (.if_icmp .le 6, 3) := by decide +kernel
theorem dX5_back_17 : decode cX5_back 17 = .ok (.bipush (-4), 2) := by decide +kernel
theorem dX5_back_19 : decode cX5_back 19 = .ok (.ireturn, 1) := by decide +kernel
theorem dX5_back_20 : decode cX5_back 20 = .ok (.iconst 0, 1) := by decide +kernel
theorem dX5_back_21 : decode cX5_back 21 = .ok (.istore_n 2, 1) := by decide +kernel
theorem dX5_back_22 : decode cX5_back 22 = .ok (.iload_n 2, 1) := by decide +kernel
theorem dX5_back_23 : decode cX5_back 23 = .ok (.iload_n 1, 1) := by decide +kernel
theorem dX5_back_24 : decode cX5_back 24 = .ok (.if_icmp .ge 176, 3) := by decide +kernel
theorem dX5_back_27 : decode cX5_back 27 = .ok (.aload_n 0, 1) := by decide +kernel
theorem dX5_back_28 : decode cX5_back 28 = .ok (.dup, 1) := by decide +kernel
theorem dX5_back_29 : decode cX5_back 29 = .ok (.getfield 113, 3) := by decide +kernel
theorem dX5_back_32 : decode cX5_back 32 = .ok (.iconst 1, 1) := by decide +kernel
theorem dX5_back_33 : decode cX5_back 33 = .ok (.isub, 1) := by decide +kernel
theorem dX5_back_34 : decode cX5_back 34 = .ok (.putfield 113, 3) := by decide +kernel
theorem dX5_back_37 : decode cX5_back 37 = .ok (.aload_n 0, 1) := by decide +kernel
theorem dX5_back_38 : decode cX5_back 38 = .ok (.aload_n 0, 1) := by decide +kernel
theorem dX5_back_39 : decode cX5_back 39 = .ok (.getfield 51, 3) := by decide +kernel
theorem dX5_back_42 : decode cX5_back 42 = .ok (.aload_n 0, 1) := by decide +kernel
theorem dX5_back_43 : decode cX5_back 43 = .ok (.getfield 113, 3) := by decide +kernel
theorem dX5_back_46 : decode cX5_back 46 = .ok (.iaload, 1) := by decide +kernel
theorem dX5_back_47 : decode cX5_back 47 = .ok (.putfield 79, 3) := by decide +kernel
theorem dX5_back_50 : decode cX5_back 50 = .ok (.aload_n 0, 1) := by decide +kernel
theorem dX5_back_51 : decode cX5_back 51 = .ok (.aload_n 0, 1) := by decide +kernel
theorem dX5_back_52 : decode cX5_back 52 = .ok (.getfield 57, 3) := by decide +kernel
theorem dX5_back_55 : decode cX5_back 55 = .ok (.aload_n 0, 1) := by decide +kernel
theorem dX5_back_56 : decode cX5_back 56 = .ok (.getfield 113, 3) := by decide +kernel
theorem dX5_back_59 : decode cX5_back 59 = .ok (.iaload, 1) := by decide +kernel
theorem dX5_back_60 : decode cX5_back 60 = .ok (.putfield 116, 3) := by decide +kernel
theorem dX5_back_63 : decode cX5_back 63 = .ok (.aload_n 0, 1) := by decide +kernel
theorem dX5_back_64 : decode cX5_back 64 = .ok (.getfield 42, 3) := by decide +kernel
theorem dX5_back_67 : decode cX5_back 67 = .ok (.aload_n 0, 1) := by decide +kernel
theorem dX5_back_68 : decode cX5_back 68 = .ok (.getfield 7, 3) := by decide +kernel
theorem dX5_back_71 : decode cX5_back 71 = .ok (.aload_n 0, 1) := by decide +kernel
theorem dX5_back_72 : decode cX5_back 72 = .ok (.getfield 79, 3) := by decide +kernel
theorem dX5_back_75 : decode cX5_back 75 = .ok (.iaload, 1) := by decide +kernel
theorem dX5_back_76 : decode cX5_back 76 = .ok (.dup2, 1) := by decide +kernel
theorem dX5_back_77 : decode cX5_back 77 = .ok (.iaload, 1) := by decide +kernel
theorem dX5_back_78 : decode cX5_back 78 = .ok (.iconst 1, 1) := by decide +kernel
theorem dX5_back_79 : decode cX5_back 79 = .ok (.isub, 1) := by decide +kernel
theorem dX5_back_80 : decode cX5_back 80 = .ok (.iastore, 1) := by decide +kernel
theorem dX5_back_81 : decode cX5_back 81 = .ok (.iconst 0, 1) := by decide +kernel
theorem dX5_back_82 : decode cX5_back 82 = .ok (.istore_n 3, 1) := by decide +kernel
theorem dX5_back_83 : decode cX5_back 83 = .ok (.iload_n 3, 1) := by decide +kernel
theorem dX5_back_84 : decode cX5_back 84 = .ok (.bipush 20, 2) := by decide +kernel
theorem dX5_back_86 : decode cX5_back 86 = .ok (.if_icmp .ge 49, 3) := by decide +kernel
theorem dX5_back_89 : decode cX5_back 89 = .ok (.aload_n 0, 1) := by decide +kernel
theorem dX5_back_90 : decode cX5_back 90 = .ok (.getfield 45, 3) := by decide +kernel
theorem dX5_back_93 : decode cX5_back 93 = .ok (.iload_n 3, 1) := by decide +kernel
theorem dX5_back_94 : decode cX5_back 94 = .ok (.aload_n 0, 1) := by decide +kernel
theorem dX5_back_95 : decode cX5_back 95 = .ok (.getfield 60, 3) := by decide +kernel
theorem dX5_back_98 : decode cX5_back 98 = .ok (.bipush 20, 2) := by decide +kernel
theorem dX5_back_100 : decode cX5_back 100 = .ok (.aload_n 0, 1) := by decide +kernel
theorem dX5_back_101 : decode cX5_back 101 = .ok (.getfield 113, 3) := by decide +kernel
theorem dX5_back_104 : decode cX5_back 104 = .ok (.imul, 1) := by decide +kernel
theorem dX5_back_105 : decode cX5_back 105 = .ok (.iload_n 3, 1) := by decide +kernel
theorem dX5_back_106 : decode cX5_back 106 = .ok (.iadd, 1) := by decide +kernel
theorem dX5_back_107 : decode cX5_back 107 = .ok (.iaload, 1) := by decide +kernel
theorem dX5_back_108 : decode cX5_back 108 = .ok (.iastore, 1) := by decide +kernel
theorem dX5_back_109 : decode cX5_back 109 = .ok (.aload_n 0, 1) := by decide +kernel
theorem dX5_back_110 : decode cX5_back 110 = .ok (.getfield 48, 3) := by decide +kernel
theorem dX5_back_113 : decode cX5_back 113 = .ok (.iload_n 3, 1) := by decide +kernel
theorem dX5_back_114 : decode cX5_back 114 = .ok (.aload_n 0, 1) := by decide +kernel
theorem dX5_back_115 : decode cX5_back 115 = .ok (.getfield 63, 3) := by decide +kernel
theorem dX5_back_118 : decode cX5_back 118 = .ok (.bipush 20, 2) := by decide +kernel
theorem dX5_back_120 : decode cX5_back 120 = .ok (.aload_n 0, 1) := by decide +kernel
theorem dX5_back_121 : decode cX5_back 121 = .ok (.getfield 113, 3) := by decide +kernel
theorem dX5_back_124 : decode cX5_back 124 = .ok (.imul, 1) := by decide +kernel
theorem dX5_back_125 : decode cX5_back 125 = .ok (.iload_n 3, 1) := by decide +kernel
theorem dX5_back_126 : decode cX5_back 126 = .ok (.iadd, 1) := by decide +kernel
theorem dX5_back_127 : decode cX5_back 127 = .ok (.iaload, 1) := by decide +kernel
theorem dX5_back_128 : decode cX5_back 128 = .ok (.iastore, 1) := by decide +kernel
theorem dX5_back_129 : decode cX5_back 129 = .ok (.iinc 3 1, 3) := by decide +kernel
theorem dX5_back_132 : decode cX5_back 132 = .ok (.goto (-49), 3) := by decide +kernel
theorem dX5_back_135 : decode cX5_back 135 = .ok (.iconst 0, 1) := by decide +kernel
theorem dX5_back_136 : decode cX5_back 136 = .ok (.istore_n 3, 1) := by decide +kernel
theorem dX5_back_137 : decode cX5_back 137 = .ok (.iload_n 3, 1) := by decide +kernel
theorem dX5_back_138 : decode cX5_back 138 = .ok (.bipush 9, 2) := by decide +kernel
theorem dX5_back_140 : decode cX5_back 140 = .ok (.if_icmp .ge 54, 3) := by decide +kernel
theorem dX5_back_143 : decode cX5_back 143 = .ok (.aload_n 0, 1) := by decide +kernel
theorem dX5_back_144 : decode cX5_back 144 = .ok (.getfield 54, 3) := by decide +kernel
theorem dX5_back_147 : decode cX5_back 147 = .ok (.aload_n 0, 1) := by decide +kernel
theorem dX5_back_148 : decode cX5_back 148 = .ok (.getfield 113, 3) := by decide +kernel
theorem dX5_back_151 : decode cX5_back 151 = .ok (.iaload, 1) := by decide +kernel
theorem dX5_back_152 : decode cX5_back 152 = .ok (.ifCond .lt 42, 3) := by decide +kernel
theorem dX5_back_155 : decode cX5_back 155 = .ok (.aload_n 0, 1) := by decide +kernel
theorem dX5_back_156 : decode cX5_back 156 = .ok (.getfield 29, 3) := by decide +kernel
theorem dX5_back_159 : decode cX5_back 159 = .ok (.bipush 9, 2) := by decide +kernel
theorem dX5_back_161 : decode cX5_back 161 = .ok (.aload_n 0, 1) := by decide +kernel
theorem dX5_back_162 : decode cX5_back 162 = .ok (.getfield 54, 3) := by decide +kernel
theorem dX5_back_165 : decode cX5_back 165 = .ok (.aload_n 0, 1) := by decide +kernel
theorem dX5_back_166 : decode cX5_back 166 = .ok (.getfield 113, 3) := by decide +kernel
theorem dX5_back_169 : decode cX5_back 169 = .ok (.iaload, 1) := by decide +kernel
theorem dX5_back_170 : decode cX5_back 170 = .ok (.imul, 1) := by decide +kernel
theorem dX5_back_171 : decode cX5_back 171 = .ok (.iload_n 3, 1) := by decide +kernel
theorem dX5_back_172 : decode cX5_back 172 = .ok (.iadd, 1) := by decide +kernel
theorem dX5_back_173 : decode cX5_back 173 = .ok (.aload_n 0, 1) := by decide +kernel
theorem dX5_back_174 : decode cX5_back 174 = .ok (.getfield 66, 3) := by decide +kernel
theorem dX5_back_177 : decode cX5_back 177 = .ok (.bipush 9, 2) := by decide +kernel
theorem dX5_back_179 : decode cX5_back 179 = .ok (.aload_n 0, 1) := by decide +kernel
theorem dX5_back_180 : decode cX5_back 180 = .ok (.getfield 113, 3) := by decide +kernel
theorem dX5_back_183 : decode cX5_back 183 = .ok (.imul, 1) := by decide +kernel
theorem dX5_back_184 : decode cX5_back 184 = .ok (.iload_n 3, 1) := by decide +kernel
theorem dX5_back_185 : decode cX5_back 185 = .ok (.iadd, 1) := by decide +kernel
theorem dX5_back_186 : decode cX5_back 186 = .ok (.baload, 1) := by decide +kernel
theorem dX5_back_187 : decode cX5_back 187 = .ok (.bastore, 1) := by decide +kernel
theorem dX5_back_188 : decode cX5_back 188 = .ok (.iinc 3 1, 3) := by decide +kernel
theorem dX5_back_191 : decode cX5_back 191 = .ok (.goto (-54), 3) := by decide +kernel
theorem dX5_back_194 : decode cX5_back 194 = .ok (.iinc 2 1, 3) := by decide +kernel
theorem dX5_back_197 : decode cX5_back 197 = .ok (.goto (-175), 3) := by decide +kernel
theorem dX5_back_200 : decode cX5_back 200 = .ok (.aload_n 0, 1) := by decide +kernel
theorem dX5_back_201 : decode cX5_back 201 = .ok (.getfield 79, 3) := by decide +kernel
theorem dX5_back_204 : decode cX5_back 204 = .ok (.ireturn, 1) := by decide +kernel
set_option maxRecDepth 20000 in
theorem ggX5_show_X5_isItem : GoodIn wsX5_show wsX5_isItem := goodIn_r _ [6, 7, 29, 30, 31, 32, 33, 34, 35, 36, 37, 38, 39, 40, 41, 42, 43, 44, 45, 46, 47, 48, 49, 50, 51, 52, 53, 54, 55] (by decide +kernel) (by decide +kernel)
set_option maxRecDepth 20000 in
theorem gX5_show_X5_isItem : GoodIn wsX5_show (wsV RX5 86 RX5 yX5_isItem wsX5_isItem) := goodIn_app (goodIn_of _ (by decide +kernel)) ggX5_show_X5_isItem
set_option maxRecDepth 20000 in
theorem ggX5_show_X5_isBad : GoodIn wsX5_show wsX5_isBad := goodIn_r _ [11, 12, 13, 14, 15, 16, 5, 17, 18, 19, 20, 21, 22, 29, 30, 31, 32, 33, 34, 35, 36, 37, 38, 39, 40, 41, 42, 43, 44, 45, 46, 47, 48, 49, 50, 51, 52, 53, 54, 55] (by decide +kernel) (by decide +kernel)
set_option maxRecDepth 20000 in
theorem gX5_show_X5_isBad : GoodIn wsX5_show (wsV RX5 128 RX5 yX5_isBad wsX5_isBad) := goodIn_app (goodIn_of _ (by decide +kernel)) ggX5_show_X5_isBad
set_option maxRecDepth 20000 in
theorem ggX5_show_X5_says : GoodIn wsX5_show wsX5_says := goodIn_r _ [26, 13, 22, 12, 27, 28, 18, 19, 20, 5, 21, 14, 15, 16, 17, 29, 30, 31, 32, 33, 34, 35, 36, 37, 38, 39, 40, 41, 42, 43, 44, 45, 46, 47, 48, 49, 50, 51, 52, 53, 54, 55] (by decide +kernel) (by decide +kernel)
set_option maxRecDepth 20000 in
theorem gX5_show_X5_says : GoodIn wsX5_show (wsV RX5 131 RX5 yX5_says wsX5_says) := goodIn_app (goodIn_of _ (by decide +kernel)) ggX5_show_X5_says
theorem dX5_show_0 : decode cX5_show 0 = .ok (.aload_n 0, 1) := by decide +kernel
theorem dX5_show_1 : decode cX5_show 1 = .ok (.aload_n 0, 1) := by decide +kernel
theorem dX5_show_2 : decode cX5_show 2 = .ok (.iload_n 1, 1) := by decide +kernel
theorem dX5_show_3 : decode cX5_show 3 = .ok (.invokevirtual 86, 3) := by decide +kernel
theorem dX5_show_6 : decode cX5_show 6 = .ok (.ifCond .ne 7, 3) := by decide +kernel
theorem dX5_show_9 : decode cX5_show 9 = .ok (.iconst 1, 1) := by decide +kernel
theorem dX5_show_10 : decode cX5_show 10 = .ok (.goto 16, 3) := by decide +kernel
theorem dX5_show_13 : decode cX5_show 13 = .ok (.aload_n 0, 1) := by decide +kernel
theorem dX5_show_14 : decode cX5_show 14 = .ok (.iload_n 1, 1) := by decide +kernel
theorem dX5_show_15 : decode cX5_show 15 = .ok (.invokevirtual 128, 3) := by decide +kernel
theorem dX5_show_18 : decode cX5_show 18 = .ok (.ifCond .eq 7, 3) := by decide +kernel
theorem dX5_show_21 : decode cX5_show 21 = .ok (.iconst 2, 1) := by decide +kernel
theorem dX5_show_22 : decode cX5_show 22 = .ok (.goto 4, 3) := by decide +kernel
theorem dX5_show_25 : decode cX5_show 25 = .ok (.iconst 0, 1) := by decide +kernel
theorem dX5_show_26 : decode cX5_show 26 = .ok (.putfield 69, 3) := by decide +kernel
theorem dX5_show_29 : decode cX5_show 29 = .ok (.aload_n 0, 1) := by decide +kernel
theorem dX5_show_30 : decode cX5_show 30 = .ok (.getfield 69, 3) := by decide +kernel
theorem dX5_show_33 : decode cX5_show 33 = .ok (.ifCond .le 7, 3) := by decide +kernel
theorem dX5_show_36 : decode cX5_show 36 = .ok (.lconst 0, 1) := by decide +kernel
theorem dX5_show_37 : decode cX5_show 37 = .ok (.goto 8, 3) := by decide +kernel
theorem dX5_show_40 : decode cX5_show 40 = .ok (.aload_n 0, 1) := by decide +kernel
theorem dX5_show_41 : decode cX5_show 41 = .ok (.iload_n 1, 1) := by decide +kernel
theorem dX5_show_42 : decode cX5_show 42 = .ok (.invokevirtual 131, 3) := by decide +kernel
theorem dX5_show_45 : decode cX5_show 45 = .ok (.lreturn, 1) := by decide +kernel
theorem dX5_performed_0 : decode cX5_performed 0 = .ok (.aload_n 0, 1) := by decide +kernel
theorem dX5_performed_1 : decode cX5_performed 1 = .ok (.iconst 0, 1) := by decide +kernel
theorem dX5_performed_2 : decode cX5_performed 2 = .ok (.putfield 69, 3) := by decide +kernel
theorem dX5_performed_5 : decode cX5_performed 5 = .ok (.iload_n 1, 1) := by decide +kernel
theorem dX5_performed_6 : decode cX5_performed 6 = .ok (.ifCond .lt 27, 3) := by decide +kernel
theorem dX5_performed_9 : decode cX5_performed 9 = .ok (.iload_n 1, 1) := by decide +kernel
theorem dX5_performed_10 : decode cX5_performed 10 = .ok (.aload_n 0, 1) := by decide +kernel
theorem dX5_performed_11 : decode cX5_performed 11 = .ok (.getfield 116, 3) := by decide +kernel
theorem dX5_performed_14 : decode cX5_performed 14 = .ok (.if_icmp .ge 19, 3) := by decide +kernel
theorem dX5_performed_17 : decode cX5_performed 17 = .ok (.aload_n 0, 1) := by decide +kernel
theorem dX5_performed_18 : decode cX5_performed 18 = .ok (.getfield 45, 3) := by decide +kernel
theorem dX5_performed_21 : decode cX5_performed 21 = .ok (.aload_n 0, 1) := by decide +kernel
theorem dX5_performed_22 : decode cX5_performed 22 = .ok (.getfield 116, 3) := by decide +kernel
theorem dX5_performed_25 : decode cX5_performed 25 = .ok (.iconst 1, 1) := by decide +kernel
theorem dX5_performed_26 : decode cX5_performed 26 = .ok (.isub, 1) := by decide +kernel
theorem dX5_performed_27 : decode cX5_performed 27 = .ok (.iload_n 1, 1) := by decide +kernel
theorem dX5_performed_28 : decode cX5_performed 28 = .ok (.isub, 1) := by decide +kernel
theorem dX5_performed_29 : decode cX5_performed 29 = .ok (.iaload, 1) := by decide +kernel
theorem dX5_performed_30 : decode cX5_performed 30 = .ok (.goto 4, 3) := by decide +kernel
theorem dX5_performed_33 : decode cX5_performed 33 = .ok (.iconst 0, 1) := by decide +kernel
theorem dX5_performed_34 : decode cX5_performed 34 = .ok (.ireturn, 1) := by decide +kernel
theorem dX5_count_0 : decode cX5_count 0 = .ok (.aload_n 0, 1) := by decide +kernel
theorem dX5_count_1 : decode cX5_count 1 = .ok (.iconst 0, 1) := by decide +kernel
theorem dX5_count_2 : decode cX5_count 2 = .ok (.putfield 69, 3) := by decide +kernel
theorem dX5_count_5 : decode cX5_count 5 = .ok (.iload_n 1, 1) := by decide +kernel
theorem dX5_count_6 : decode cX5_count 6 = .ok (.ifCond .lt 9, 3) := by decide +kernel
theorem dX5_count_9 : decode cX5_count 9 = .ok (.iload_n 1, 1) := by decide +kernel
theorem dX5_count_10 : decode cX5_count 10 = .ok (.bipush 19, 2) := by decide +kernel
theorem dX5_count_12 : decode cX5_count 12 = .ok (.if_icmp .le 8, 3) := by decide +kernel
theorem dX5_count_15 : decode cX5_count 15 = .ok (.bipush (-4), 2) := by decide +kernel
theorem dX5_count_17 : decode cX5_count 17 = .ok (.goto 9, 3) := by decide +kernel
theorem dX5_count_20 : decode cX5_count 20 = .ok (.aload_n 0, 1) := by decide +kernel
theorem dX5_count_21 : decode cX5_count 21 = .ok (.getfield 42, 3) := by decide +kernel
theorem dX5_count_24 : decode cX5_count 24 = .ok (.iload_n 1, 1) := by decide +kernel
theorem dX5_count_25 : decode cX5_count 25 = .ok (.iaload, 1) := by decide +kernel
theorem dX5_count_26 : decode cX5_count 26 = .ok (.ireturn, 1) := by decide +kernel
theorem dX5_caught_0 : decode cX5_caught 0 = .ok (.aload_n 0, 1) := by decide +kernel
theorem dX5_caught_1 : decode cX5_caught 1 = .ok (.iconst 0, 1) := by decide +kernel
theorem dX5_caught_2 : decode cX5_caught 2 = .ok (.putfield 69, 3) := by decide +kernel
theorem dX5_caught_5 : decode cX5_caught 5 = .ok (.iconst 1, 1) := by decide +kernel
theorem dX5_caught_6 : decode cX5_caught 6 = .ok (.istore_n 3, 1) := by decide +kernel
theorem dX5_caught_7 : decode cX5_caught 7 = .ok (.iload_n 3, 1) := by decide +kernel
theorem dX5_caught_8 : decode cX5_caught 8 = .ok (.aload_n 0, 1) := by decide +kernel
theorem dX5_caught_9 : decode cX5_caught 9 = .ok (.getfield 89, 3) := by decide +kernel
theorem dX5_caught_12 : decode cX5_caught 12 = .ok (.if_icmp .gt 41, 3) := by decide +kernel
theorem dX5_caught_15 : decode cX5_caught 15 = .ok (.aload_n 0, 1) := by decide +kernel
theorem dX5_caught_16 : decode cX5_caught 16 = .ok (.getfield 33, 3) := by decide +kernel
theorem dX5_caught_19 : decode cX5_caught 19 = .ok (.iload_n 3, 1) := by decide +kernel
theorem dX5_caught_20 : decode cX5_caught 20 = .ok (.iaload, 1) := by decide +kernel
theorem dX5_caught_21 : decode cX5_caught 21 = .ok (.iconst 4, 1) := by decide +kernel
theorem dX5_caught_22 : decode cX5_caught 22 = .ok (.if_icmp .ne 25, 3) := by decide +kernel
theorem dX5_caught_25 : decode cX5_caught 25 = .ok (.aload_n 0, 1) := by decide +kernel
theorem dX5_caught_26 : decode cX5_caught 26 = .ok (.getfield 36, 3) := by decide +kernel
theorem dX5_caught_29 : decode cX5_caught 29 = .ok (.iload_n 3, 1) := by decide +kernel
theorem dX5_caught_30 : decode cX5_caught 30 = .ok (.iaload, 1) := by decide +kernel
theorem dX5_caught_31 : decode cX5_caught 31 = .ok (.iload_n 1, 1) := by decide +kernel
theorem dX5_caught_32 : decode cX5_caught 32 = .ok (.if_icmp .ne 15, 3) := by decide +kernel
theorem dX5_caught_35 : decode cX5_caught 35 = .ok (.aload_n 0, 1) := by decide +kernel
theorem dX5_caught_36 : decode cX5_caught 36 = .ok (.getfield 39, 3) := by decide +kernel
theorem dX5_caught_39 : decode cX5_caught 39 = .ok (.iload_n 3, 1) := by decide +kernel
theorem dX5_caught_40 : decode cX5_caught 40 = .ok (.iaload, 1) := by decide +kernel
theorem dX5_caught_41 : decode cX5_caught 41 = .ok (.iload_n 2, 1) := by decide +kernel
theorem dX5_caught_42 : decode cX5_caught 42 = .ok (.if_icmp .ne 5, 3) := by decide +kernel
theorem dX5_caught_45 : decode cX5_caught 45 = .ok (.iload_n 3, 1) := by decide +kernel
theorem dX5_caught_46 : decode cX5_caught 46 = .ok (.ireturn, 1) := by decide +kernel
theorem dX5_caught_47 : decode cX5_caught 47 = .ok (.iinc 3 1, 3) := by decide +kernel
theorem dX5_caught_50 : decode cX5_caught 50 = .ok (.goto (-43), 3) := by decide +kernel
theorem dX5_caught_53 : decode cX5_caught 53 = .ok (.iconst 0, 1) := by decide +kernel
theorem dX5_caught_54 : decode cX5_caught 54 = .ok (.ireturn, 1) := by decide +kernel
theorem dX5_near_0 : decode cX5_near 0 = .ok (.aload_n 0, 1) := by decide +kernel
theorem dX5_near_1 : decode cX5_near 1 = .ok (.iconst 0, 1) := by decide +kernel
theorem dX5_near_2 : decode cX5_near 2 = .ok (.putfield 69, 3) := by decide +kernel
theorem dX5_near_5 : decode cX5_near 5 = .ok (.aload_n 0, 1) := by decide +kernel
theorem dX5_near_6 : decode cX5_near 6 = .ok (.getfield 76, 3) := by decide +kernel
theorem dX5_near_9 : decode cX5_near 9 = .ok (.ifCond .ne 7, 3) := by decide +kernel
theorem dX5_near_12 : decode cX5_near 12 = .ok (.iconst (-1), 1) := by decide +kernel
theorem dX5_near_13 : decode cX5_near 13 = .ok (.goto 29, 3) := by decide +kernel
theorem dX5_near_16 : decode cX5_near 16 = .ok (.iload_n 1, 1) := by decide +kernel
theorem dX5_near_17 : decode cX5_near 17 = .ok (.ifCond .ge 7, 3) := by decide +kernel
theorem dX5_near_20 : decode cX5_near 20 = .ok (.iconst 0, 1) := by decide +kernel
theorem dX5_near_21 : decode cX5_near 21 = .ok (.goto 21, 3) := by decide +kernel
theorem dX5_near_24 : decode cX5_near 24 = .ok (.iload_n 1, 1) := by decide +kernel
theorem dX5_near_25 : decode cX5_near 25 = .ok (.aload_n 0, 1) := by decide +kernel
theorem dX5_near_26 : decode cX5_near 26 = .ok (.getfield 76, 3) := by decide +kernel
theorem dX5_near_29 : decode cX5_near 29 = .ok (.if_icmp .ge 7, 3) := by decide +kernel
theorem dX5_near_32 : decode cX5_near 32 = .ok (.iload_n 1, 1) := by decide +kernel
theorem dX5_near_33 : decode cX5_near 33 = .ok (.goto 9, 3) := by decide +kernel
theorem dX5_near_36 : decode cX5_near 36 = .ok (.aload_n 0, 1) := by decide +kernel
theorem dX5_near_37 : decode cX5_near 37 = .ok (.getfield 76, 3) := by decide +kernel
theorem dX5_near_40 : decode cX5_near 40 = .ok (.iconst 1, 1) := by decide +kernel
theorem dX5_near_41 : decode cX5_near 41 = .ok (.isub, 1) := by decide +kernel
theorem dX5_near_42 : decode cX5_near 42 = .ok (.ireturn, 1) := by decide +kernel
set_option maxRecDepth 20000 in
theorem ggX5_octet_X5_isItem : GoodIn wsX5_octet wsX5_isItem := goodIn_r _ [8, 9, 10, 11, 12, 13, 14, 15, 16, 17, 18, 19, 20, 21, 22, 23, 24, 25, 26, 27, 28, 29, 30, 31, 32, 33, 34, 35, 36] (by decide +kernel) (by decide +kernel)
set_option maxRecDepth 20000 in
theorem gX5_octet_X5_isItem : GoodIn wsX5_octet (wsV RX5 86 RX5 yX5_isItem wsX5_isItem) := goodIn_app (goodIn_of _ (by decide +kernel)) ggX5_octet_X5_isItem
theorem dX5_octet_0 : decode cX5_octet 0 = .ok (.aload_n 0, 1) := by decide +kernel
theorem dX5_octet_1 : decode cX5_octet 1 = .ok (.iload_n 1, 1) := by decide +kernel
theorem dX5_octet_2 : decode cX5_octet 2 = .ok (.invokevirtual 86, 3) := by decide +kernel
theorem dX5_octet_5 : decode cX5_octet 5 = .ok (.ifCond .eq 21, 3) := by decide +kernel
theorem dX5_octet_8 : decode cX5_octet 8 = .ok (.iload_n 2, 1) := by decide +kernel
theorem dX5_octet_9 : decode cX5_octet 9 = .ok (.ifCond .lt 17, 3) := by decide +kernel
theorem dX5_octet_12 : decode cX5_octet 12 = .ok (.iload_n 2, 1) := by decide +kernel
theorem dX5_octet_13 : decode cX5_octet 13 = .ok (.aload_n 0, 1) := by decide +kernel
theorem dX5_octet_14 : decode cX5_octet 14 = .ok (.getfield 26, 3) := by decide +kernel
theorem dX5_octet_17 : decode cX5_octet 17 = .ok (.iload_n 1, 1) := by decide +kernel
theorem dX5_octet_18 : decode cX5_octet 18 = .ok (.iaload, 1) := by decide +kernel
theorem dX5_octet_19 : decode cX5_octet 19 = .ok (.if_icmp .ge 7, 3) := by decide +kernel
theorem dX5_octet_22 : decode cX5_octet 22 = .ok (.iconst 1, 1) := by decide +kernel
theorem dX5_octet_23 : decode cX5_octet 23 = .ok (.goto 4, 3) := by decide +kernel
theorem dX5_octet_26 : decode cX5_octet 26 = .ok (.iconst 0, 1) := by decide +kernel
theorem dX5_octet_27 : decode cX5_octet 27 = .ok (.istore_n 3, 1) := by decide +kernel
theorem dX5_octet_28 : decode cX5_octet 28 = .ok (.aload_n 0, 1) := by decide +kernel
theorem dX5_octet_29 : decode cX5_octet 29 = .ok (.iload_n 3, 1) := by decide +kernel
theorem dX5_octet_30 : decode cX5_octet 30 = .ok (.ifCond .eq 7, 3) := by decide +kernel
theorem dX5_octet_33 : decode cX5_octet 33 = .ok (.iconst 0, 1) := by decide +kernel
theorem dX5_octet_34 : decode cX5_octet 34 = .ok (.goto 4, 3) := by decide +kernel
theorem dX5_octet_37 : decode cX5_octet 37 = .ok (.iconst 1, 1) := by decide +kernel
theorem dX5_octet_38 : decode cX5_octet 38 = .ok (.putfield 69, 3) := by decide +kernel
theorem dX5_octet_41 : decode cX5_octet 41 = .ok (.iload_n 3, 1) := by decide +kernel
theorem dX5_octet_42 : decode cX5_octet 42 = .ok (.ifCond .eq 17, 3) := by decide +kernel
theorem dX5_octet_45 : decode cX5_octet 45 = .ok (.aload_n 0, 1) := by decide +kernel
theorem dX5_octet_46 : decode cX5_octet 46 = .ok (.getfield 29, 3) := by decide +kernel
theorem dX5_octet_49 : decode cX5_octet 49 = .ok (.bipush 9, 2) := by decide +kernel
theorem dX5_octet_51 : decode cX5_octet 51 = .ok (.iload_n 1, 1) := by decide +kernel
theorem dX5_octet_52 : decode cX5_octet 52 = .ok (.imul, 1) := by decide +kernel
theorem dX5_octet_53 : decode cX5_octet 53 = .ok (.iload_n 2, 1) := by decide +kernel
theorem dX5_octet_54 : decode cX5_octet 54 = .ok (.iadd, 1) := by decide +kernel
theorem dX5_octet_55 : decode cX5_octet 55 = .ok (.baload, 1) := by decide +kernel
theorem dX5_octet_56 : decode cX5_octet 56 = .ok (.goto 4, 3) := by decide +kernel
theorem dX5_octet_59 : decode cX5_octet 59 = .ok (.iconst 0, 1) := by decide +kernel
theorem dX5_octet_60 : decode cX5_octet 60 = .ok (.ireturn, 1) := by decide +kernel
theorem dX5_told_0 : decode cX5_told 0 = .ok (.aload_n 0, 1) := by decide +kernel
theorem dX5_told_1 : decode cX5_told 1 = .ok (.iconst 0, 1) := by decide +kernel
theorem dX5_told_2 : decode cX5_told 2 = .ok (.putfield 69, 3) := by decide +kernel
theorem dX5_told_5 : decode cX5_told 5 = .ok (.iload_n 1, 1) := by decide +kernel
theorem dX5_told_6 : decode cX5_told 6 = .ok (.tableswitch 77 0 6 #[42, 47, 52, 57, 62, 67, 72], 42) := by decide +kernel
theorem dX5_told_48 : decode cX5_told 48 = .ok (.aload_n 0, 1) := by decide +kernel
theorem dX5_told_49 : decode cX5_told 49 = .ok (.getfield 73, 3) := by decide +kernel
theorem dX5_told_52 : decode cX5_told 52 = .ok (.ireturn, 1) := by decide +kernel
theorem dX5_told_53 : decode cX5_told 53 = .ok (.aload_n 0, 1) := by decide +kernel
theorem dX5_told_54 : decode cX5_told 54 = .ok (.getfield 76, 3) := by decide +kernel
theorem dX5_told_57 : decode cX5_told 57 = .ok (.ireturn, 1) := by decide +kernel
theorem dX5_told_58 : decode cX5_told 58 = .ok (.aload_n 0, 1) := by decide +kernel
theorem dX5_told_59 : decode cX5_told 59 = .ok (.getfield 89, 3) := by decide +kernel
theorem dX5_told_62 : decode cX5_told 62 = .ok (.ireturn, 1) := by decide +kernel
theorem dX5_told_63 : decode cX5_told 63 = .ok (.aload_n 0, 1) := by decide +kernel
theorem dX5_told_64 : decode cX5_told 64 = .ok (.getfield 79, 3) := by decide +kernel
theorem dX5_told_67 : decode cX5_told 67 = .ok (.ireturn, 1) := by decide +kernel
theorem dX5_told_68 : decode cX5_told 68 = .ok (.aload_n 0, 1) := by decide +kernel
theorem dX5_told_69 : decode cX5_told 69 = .ok (.getfield 113, 3) := by decide +kernel
theorem dX5_told_72 : decode cX5_told 72 = .ok (.ireturn, 1) := by decide +kernel
theorem dX5_told_73 : decode cX5_told 73 = .ok (.aload_n 0, 1) := by decide +kernel
theorem dX5_told_74 : decode cX5_told 74 = .ok (.getfield 125, 3) := by decide +kernel
theorem dX5_told_77 : decode cX5_told 77 = .ok (.ireturn, 1) := by decide +kernel
theorem dX5_told_78 : decode cX5_told 78 = .ok (.aload_n 0, 1) := by decide +kernel
theorem dX5_told_79 : decode cX5_told 79 = .ok (.getfield 116, 3) := by decide +kernel
theorem dX5_told_82 : decode cX5_told 82 = .ok (.ireturn, 1) := by decide +kernel
theorem dX5_told_83 : decode cX5_told 83 = .ok (.iconst (-1), 1) := by decide +kernel
theorem dX5_told_84 : decode cX5_told 84 = .ok (.ireturn, 1) := by decide +kernel
theorem dJx00060_init_a7421_0 : decode cJx00060_init_a7421 0 = .ok (.aload_n 0, 1) := by decide +kernel
theorem dJx00060_init_a7421_1 : decode cJx00060_init_a7421 1 = .ok (.aload_n 1, 1) := by decide +kernel
theorem dJx00060_init_a7421_2 : decode cJx00060_init_a7421 2 = .ok (.invokespecial 7, 3) := by decide +kernel
theorem dJx00060_init_a7421_5 : decode cJx00060_init_a7421 5 = .ok (.return_, 1) := by decide +kernel
theorem dJ9_abs_067f4_0 : decode cJ9_abs_067f4 0 = .ok (.lload_n 0, 1) := by decide +kernel
theorem dJ9_abs_067f4_1 : decode cJ9_abs_067f4 1 = .ok (.lconst 0, 1) := by decide +kernel
theorem dJ9_abs_067f4_2 : decode cJ9_abs_067f4 2 = .ok (.lcmp, 1) := by decide +kernel
theorem dJ9_abs_067f4_3 : decode cJ9_abs_067f4 3 = .ok (.ifCond .ge 8, 3) := by decide +kernel
theorem dJ9_abs_067f4_6 : decode cJ9_abs_067f4 6 = .ok (.lload_n 0, 1) := by decide +kernel
theorem dJ9_abs_067f4_7 : decode cJ9_abs_067f4 7 = .ok (.lneg, 1) := by decide +kernel
theorem dJ9_abs_067f4_8 : decode cJ9_abs_067f4 8 = .ok (.goto 4, 3) := by decide +kernel
theorem dJ9_abs_067f4_11 : decode cJ9_abs_067f4 11 = .ok (.lload_n 0, 1) := by decide +kernel
theorem dJ9_abs_067f4_12 : decode cJ9_abs_067f4 12 = .ok (.lreturn, 1) := by decide +kernel
theorem dJ9_max_7cf53_0 : decode cJ9_max_7cf53 0 = .ok (.iload_n 0, 1) := by decide +kernel
theorem dJ9_max_7cf53_1 : decode cJ9_max_7cf53 1 = .ok (.iload_n 1, 1) := by decide +kernel
theorem dJ9_max_7cf53_2 : decode cJ9_max_7cf53 2 = .ok (.if_icmp .lt 7, 3) := by decide +kernel
theorem dJ9_max_7cf53_5 : decode cJ9_max_7cf53 5 = .ok (.iload_n 0, 1) := by decide +kernel
theorem dJ9_max_7cf53_6 : decode cJ9_max_7cf53 6 = .ok (.goto 4, 3) := by decide +kernel
theorem dJ9_max_7cf53_9 : decode cJ9_max_7cf53 9 = .ok (.iload_n 1, 1) := by decide +kernel
theorem dJ9_max_7cf53_10 : decode cJ9_max_7cf53 10 = .ok (.ireturn, 1) := by decide +kernel
theorem dJ9_min_7cf53_0 : decode cJ9_min_7cf53 0 = .ok (.iload_n 0, 1) := by decide +kernel
theorem dJ9_min_7cf53_1 : decode cJ9_min_7cf53 1 = .ok (.iload_n 1, 1) := by decide +kernel
theorem dJ9_min_7cf53_2 : decode cJ9_min_7cf53 2 = .ok (.if_icmp .gt 7, 3) := by decide +kernel
theorem dJ9_min_7cf53_5 : decode cJ9_min_7cf53 5 = .ok (.iload_n 0, 1) := by decide +kernel
theorem dJ9_min_7cf53_6 : decode cJ9_min_7cf53 6 = .ok (.goto 4, 3) := by decide +kernel
theorem dJ9_min_7cf53_9 : decode cJ9_min_7cf53 9 = .ok (.iload_n 1, 1) := by decide +kernel
theorem dJ9_min_7cf53_10 : decode cJ9_min_7cf53 10 = .ok (.ireturn, 1) := by decide +kernel
set_option maxRecDepth 20000 in
theorem ggL_show_X4_show : GoodIn wsL_show wsX4_show := goodIn_ca (goodIn_ca (goodIn_r _ [7, 8, 9, 10, 11, 12, 13, 14, 15, 16, 17, 18, 19, 20, 21, 22, 23, 24, 25, 26, 27, 28, 29, 30, 31, 32, 33, 34, 35, 36, 37, 38, 39, 40, 41, 42, 43, 44, 45, 46, 47, 48, 49, 50, 51, 52, 53, 54, 55, 56, 57, 58, 59, 60, 61, 62] (by decide +kernel) (by decide +kernel)) (goodIn_sub (fun _ h => List.mem_cons_of_mem _ (List.mem_append_left _ (List.mem_append_right _ h))) (by decide +kernel))) (goodIn_sub (fun _ h => List.mem_cons_of_mem _ (List.mem_append_right _ h)) (by decide +kernel))
set_option maxRecDepth 20000 in
theorem gL_show_X4_show : GoodIn wsL_show (wsV RL 7 RX4 yX4_show wsX4_show) := goodIn_app (goodIn_of _ (by decide +kernel)) ggL_show_X4_show
theorem dL_show_0 : decode cL_show 0 = .ok (.aload_n 2, 1) := by decide +kernel
theorem dL_show_1 : decode cL_show 1 = .ok (.iconst 0, 1) := by decide +kernel
theorem dL_show_2 : decode cL_show 2 = .ok (.aload_n 0, 1) := by decide +kernel
theorem dL_show_3 : decode cL_show 3 = .ok (.iload_n 1, 1) := by decide +kernel
theorem dL_show_4 : decode cL_show 4 = .ok (.invokevirtual 7, 3) := by decide +kernel
theorem dL_show_7 : decode cL_show 7 = .ok (.lastore, 1) := by decide +kernel
theorem dL_show_8 : decode cL_show 8 = .ok (.goto 9, 3) := by decide +kernel
theorem dL_show_11 : decode cL_show 11 = .ok (.astore_n 3, 1) := by decide +kernel
theorem dL_show_12 : decode cL_show 12 = .ok (.iconst 1, 1) := by decide +kernel
theorem dL_show_13 : decode cL_show 13 = .ok (.ireturn, 1) := by decide +kernel
theorem dL_show_14 : decode cL_show 14 = .ok (.astore_n 3, 1) := by decide +kernel
theorem dL_show_15 : decode cL_show 15 = .ok (.iconst 2, 1) := by decide +kernel
theorem dL_show_16 : decode cL_show 16 = .ok (.ireturn, 1) := by decide +kernel
theorem dL_show_17 : decode cL_show 17 = .ok (.iconst 0, 1) := by decide +kernel
theorem dL_show_18 : decode cL_show 18 = .ok (.ireturn, 1) := by decide +kernel
set_option maxRecDepth 20000 in
theorem ggL_octet_X4_octet : GoodIn wsL_octet wsX4_octet := goodIn_r _ [5, 6, 7, 8, 9, 10, 11, 12, 13, 14, 15, 16, 17, 18, 19, 20, 21, 22, 23, 24, 25, 26, 27, 28, 29, 30, 31, 32, 33, 34, 35, 36, 37, 38, 39, 40, 41, 42, 43, 44, 45, 46] (by decide +kernel) (by decide +kernel)
set_option maxRecDepth 20000 in
theorem gL_octet_X4_octet : GoodIn wsL_octet (wsV RL 17 RX4 yX4_octet wsX4_octet) := goodIn_app (goodIn_of _ (by decide +kernel)) ggL_octet_X4_octet
theorem dL_octet_0 : decode cL_octet 0 = .ok (.aload_n 3, 1) := by decide +kernel
theorem dL_octet_1 : decode cL_octet 1 = .ok (.iconst 0, 1) := by decide +kernel
theorem dL_octet_2 : decode cL_octet 2 = .ok (.aload_n 0, 1) := by decide +kernel
theorem dL_octet_3 : decode cL_octet 3 = .ok (.iload_n 1, 1) := by decide +kernel
theorem dL_octet_4 : decode cL_octet 4 = .ok (.iload_n 2, 1) := by decide +kernel
theorem dL_octet_5 : decode cL_octet 5 = .ok (.invokevirtual 17, 3) := by decide +kernel
theorem dL_octet_8 : decode cL_octet 8 = .ok (.i2l, 1) := by decide +kernel
theorem dL_octet_9 : decode cL_octet 9 = .ok (.lastore, 1) := by decide +kernel
theorem dL_octet_10 : decode cL_octet 10 = .ok (.goto 7, 3) := by decide +kernel
theorem dL_octet_13 : decode cL_octet 13 = .ok (.astore 4, 2) := by decide +kernel
theorem dL_octet_15 : decode cL_octet 15 = .ok (.iconst 1, 1) := by decide +kernel
theorem dL_octet_16 : decode cL_octet 16 = .ok (.ireturn, 1) := by decide +kernel
theorem dL_octet_17 : decode cL_octet 17 = .ok (.iconst 0, 1) := by decide +kernel
theorem dL_octet_18 : decode cL_octet 18 = .ok (.ireturn, 1) := by decide +kernel
set_option maxRecDepth 20000 in
theorem ggL_law_X4_init : GoodIn wsL_law wsX4_init := goodIn_r _ [10, 11, 12, 13, 14, 15, 16, 17, 6, 18, 19, 20, 21, 22, 23, 24, 25, 26, 27, 28, 29, 30, 31, 32, 33, 34, 35, 36, 37, 38, 39, 40, 41, 42, 43, 44, 45, 46, 47, 48, 49, 50, 51, 52, 53, 54, 55, 56, 57, 58, 59, 60, 61, 62, 63, 64, 468, 469, 470, 471, 472, 473, 474, 475, 476, 477, 478, 479, 480, 481, 509, 510, 511, 512, 513, 514, 515, 516, 517, 518, 519, 520, 521, 522, 523, 524, 525, 526, 527, 528, 529] (by decide +kernel) (by decide +kernel)
set_option maxRecDepth 20000 in
theorem gL_law_X4_init : GoodIn wsL_law (wsX4_init) := ggL_law_X4_init
set_option maxRecDepth 20000 in
theorem ggL_law_X5_init : GoodIn wsL_law wsX5_init := goodIn_r _ [67, 68, 12, 13, 14, 69, 70, 71, 6, 72, 73, 74, 43, 75, 76, 77, 78, 79, 80, 81, 82, 83, 84, 85, 86, 87, 482, 483, 484, 485, 486, 487, 488, 489, 490, 491, 492, 493, 494, 495, 496, 497, 498, 499, 500, 501, 502, 503, 504, 505, 506, 507, 508] (by decide +kernel) (by decide +kernel)
set_option maxRecDepth 20000 in
theorem gL_law_X5_init : GoodIn wsL_law (wsX5_init) := ggL_law_X5_init
set_option maxRecDepth 20000 in
theorem ggL_law_X4_statement : GoodIn wsL_law wsX4_statement := goodIn_r _ [91, 92, 15, 16, 17, 93, 94, 95, 2, 96, 97, 98, 99, 100, 19, 20, 468, 469, 470, 471, 472, 473, 474, 475, 476, 477, 478, 479, 480, 481] (by decide +kernel) (by decide +kernel)
set_option maxRecDepth 20000 in
theorem gL_law_X4_statement : GoodIn wsL_law (wsV RL 27 RX4 yX4_statement wsX4_statement) := goodIn_app (goodIn_of _ (by decide +kernel)) ggL_law_X4_statement
set_option maxRecDepth 20000 in
theorem ggL_law_X5_statement : GoodIn wsL_law wsX5_statement := goodIn_r _ [104, 105, 106, 69, 70, 71, 107, 482, 483, 484, 485, 486, 487, 488, 489, 490, 491, 492, 493, 494, 495, 496, 497, 498, 499, 500, 501, 502, 503, 504, 505, 506, 507, 508] (by decide +kernel) (by decide +kernel)
set_option maxRecDepth 20000 in
theorem gL_law_X5_statement : GoodIn wsL_law (wsV RL 31 RX5 yX5_statement wsX5_statement) := goodIn_app (goodIn_of _ (by decide +kernel)) ggL_law_X5_statement
