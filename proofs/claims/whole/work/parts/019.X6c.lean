theorem dX6_plan_254 : decode cX6_plan 254 = .ok (.irem, 1) := by decide +kernel
theorem dX6_plan_255 : decode cX6_plan 255 = .ok (.iload_n 1, 1) := by decide +kernel
theorem dX6_plan_256 : decode cX6_plan 256 = .ok (.iconst 1, 1) := by decide +kernel
theorem dX6_plan_257 : decode cX6_plan 257 = .ok (.isub, 1) := by decide +kernel
theorem dX6_plan_258 : decode cX6_plan 258 = .ok (.if_icmp .ne 7, 3) := by decide +kernel
theorem dX6_plan_261 : decode cX6_plan 261 = .ok (.iconst 0, 1) := by decide +kernel
theorem dX6_plan_262 : decode cX6_plan 262 = .ok (.goto 14, 3) := by decide +kernel
theorem dX6_plan_265 : decode cX6_plan 265 = .ok (.iload 7, 2) := by decide +kernel
theorem dX6_plan_267 : decode cX6_plan 267 = .ok (.iconst 1, 1) := by decide +kernel
theorem dX6_plan_268 : decode cX6_plan 268 = .ok (.iadd, 1) := by decide +kernel
theorem dX6_plan_269 : decode cX6_plan 269 = .ok (.goto 7, 3) := by decide +kernel
theorem dX6_plan_272 : decode cX6_plan 272 = .ok (.iload 7, 2) := by decide +kernel
theorem dX6_plan_274 : decode cX6_plan 274 = .ok (.iconst 1, 1) := by decide +kernel
theorem dX6_plan_275 : decode cX6_plan 275 = .ok (.iadd, 1) := by decide +kernel
theorem dX6_plan_276 : decode cX6_plan 276 = .ok (.istore 5, 2) := by decide +kernel
theorem dX6_plan_278 : decode cX6_plan 278 = .ok (.iload 4, 2) := by decide +kernel
theorem dX6_plan_280 : decode cX6_plan 280 = .ok (.iload 8, 2) := by decide +kernel
theorem dX6_plan_282 : decode cX6_plan 282 = .ok (.ifCond .eq 7, 3) := by decide +kernel
theorem dX6_plan_285 : decode cX6_plan 285 = .ok (.iconst 1, 1) := by decide +kernel
theorem dX6_plan_286 : decode cX6_plan 286 = .ok (.goto 4, 3) := by decide +kernel
theorem dX6_plan_289 : decode cX6_plan 289 = .ok (.iconst 0, 1) := by decide +kernel
theorem dX6_plan_290 : decode cX6_plan 290 = .ok (.iadd, 1) := by decide +kernel
theorem dX6_plan_291 : decode cX6_plan 291 = .ok (.istore 4, 2) := by decide +kernel
theorem dX6_plan_293 : decode cX6_plan 293 = .ok (.goto (-220), 3) := by decide +kernel
theorem dX6_plan_296 : decode cX6_plan 296 = .ok (.iload 4, 2) := by decide +kernel
theorem dX6_plan_298 : decode cX6_plan 298 = .ok (.ifCond .ge 5, 3) := by decide +kernel
theorem dX6_plan_301 : decode cX6_plan 301 = .ok (.iconst (-1), 1) := by decide +kernel
theorem dX6_plan_302 : decode cX6_plan 302 = .ok (.ireturn, 1) := by decide +kernel
theorem dX6_plan_303 : decode cX6_plan 303 = .ok (.aload_n 0, 1) := by decide +kernel
theorem dX6_plan_304 : decode cX6_plan 304 = .ok (.aload_n 0, 1) := by decide +kernel
theorem dX6_plan_305 : decode cX6_plan 305 = .ok (.getfield 149, 3) := by decide +kernel
theorem dX6_plan_308 : decode cX6_plan 308 = .ok (.iload_n 1, 1) := by decide +kernel
theorem dX6_plan_309 : decode cX6_plan 309 = .ok (.idiv, 1) := by decide +kernel
theorem dX6_plan_310 : decode cX6_plan 310 = .ok (.putfield 152, 3) := by decide +kernel
theorem dX6_plan_313 : decode cX6_plan 313 = .ok (.aload_n 0, 1) := by decide +kernel
theorem dX6_plan_314 : decode cX6_plan 314 = .ok (.getfield 152, 3) := by decide +kernel
theorem dX6_plan_317 : decode cX6_plan 317 = .ok (.ireturn, 1) := by decide +kernel
set_option maxRecDepth 20000 in
theorem ggX6_planAt_X6_in : GoodIn wsX6_planAt wsX6_in := goodIn_r _ [7] (by decide +kernel) (by decide +kernel)
set_option maxRecDepth 20000 in
theorem gX6_planAt_X6_in : GoodIn wsX6_planAt (va_wsS RX6 52 yX6_in wsX6_in) := goodIn_app (goodIn_of _ (by decide +kernel)) ggX6_planAt_X6_in
theorem dX6_planAt_0 : decode cX6_planAt 0 = .ok (.iload_n 1, 1) := by decide +kernel
theorem dX6_planAt_1 : decode cX6_planAt 1 = .ok (.i2l, 1) := by decide +kernel
theorem dX6_planAt_2 : decode cX6_planAt 2 = .ok (.lconst 0, 1) := by decide +kernel
theorem dX6_planAt_3 : decode cX6_planAt 3 = .ok (.aload_n 0, 1) := by decide +kernel
theorem dX6_planAt_4 : decode cX6_planAt 4 = .ok (.getfield 152, 3) := by decide +kernel
theorem dX6_planAt_7 : decode cX6_planAt 7 = .ok (.iconst 1, 1) := by decide +kernel
theorem dX6_planAt_8 : decode cX6_planAt 8 = .ok (.isub, 1) := by decide +kernel
theorem dX6_planAt_9 : decode cX6_planAt 9 = .ok (.i2l, 1) := by decide +kernel
theorem dX6_planAt_10 : decode cX6_planAt 10 = .ok (.invokestatic 52, 3) := by decide +kernel
theorem dX6_planAt_13 : decode cX6_planAt 13 = .ok (.ifCond .eq 35, 3) := by decide +kernel
theorem dX6_planAt_16 : decode cX6_planAt 16 = .ok (.iload_n 2, 1) := by decide +kernel
theorem dX6_planAt_17 : decode cX6_planAt 17 = .ok (.i2l, 1) := by decide +kernel
theorem dX6_planAt_18 : decode cX6_planAt 18 = .ok (.lconst 0, 1) := by decide +kernel
theorem dX6_planAt_19 : decode cX6_planAt 19 = .ok (.aload_n 0, 1) := by decide +kernel
theorem dX6_planAt_20 : decode cX6_planAt 20 = .ok (.getfield 160, 3) := by decide +kernel
theorem dX6_planAt_23 : decode cX6_planAt 23 = .ok (.iconst 1, 1) := by decide +kernel
theorem dX6_planAt_24 : decode cX6_planAt 24 = .ok (.isub, 1) := by decide +kernel
theorem dX6_planAt_25 : decode cX6_planAt 25 = .ok (.i2l, 1) := by decide +kernel
theorem dX6_planAt_26 : decode cX6_planAt 26 = .ok (.invokestatic 52, 3) := by decide +kernel
theorem dX6_planAt_29 : decode cX6_planAt 29 = .ok (.ifCond .eq 19, 3) := by decide +kernel
theorem dX6_planAt_32 : decode cX6_planAt 32 = .ok (.aload_n 0, 1) := by decide +kernel
theorem dX6_planAt_33 : decode cX6_planAt 33 = .ok (.getfield 47, 3) := by decide +kernel
theorem dX6_planAt_36 : decode cX6_planAt 36 = .ok (.aload_n 0, 1) := by decide +kernel
theorem dX6_planAt_37 : decode cX6_planAt 37 = .ok (.getfield 160, 3) := by decide +kernel
theorem dX6_planAt_40 : decode cX6_planAt 40 = .ok (.iload_n 1, 1) := by decide +kernel
theorem dX6_planAt_41 : decode cX6_planAt 41 = .ok (.imul, 1) := by decide +kernel
theorem dX6_planAt_42 : decode cX6_planAt 42 = .ok (.iload_n 2, 1) := by decide +kernel
theorem dX6_planAt_43 : decode cX6_planAt 43 = .ok (.iadd, 1) := by decide +kernel
theorem dX6_planAt_44 : decode cX6_planAt 44 = .ok (.iaload, 1) := by decide +kernel
theorem dX6_planAt_45 : decode cX6_planAt 45 = .ok (.goto 4, 3) := by decide +kernel
theorem dX6_planAt_48 : decode cX6_planAt 48 = .ok (.iconst (-1), 1) := by decide +kernel
theorem dX6_planAt_49 : decode cX6_planAt 49 = .ok (.ireturn, 1) := by decide +kernel
theorem dX6_tries_0 : decode cX6_tries 0 = .ok (.aload_n 0, 1) := by decide +kernel
theorem dX6_tries_1 : decode cX6_tries 1 = .ok (.getfield 157, 3) := by decide +kernel
theorem dX6_tries_4 : decode cX6_tries 4 = .ok (.ireturn, 1) := by decide +kernel
theorem dX6_manyOf_0 : decode cX6_manyOf 0 = .ok (.iconst 0, 1) := by decide +kernel
theorem dX6_manyOf_1 : decode cX6_manyOf 1 = .ok (.istore_n 2, 1) := by decide +kernel
theorem dX6_manyOf_2 : decode cX6_manyOf 2 = .ok (.iconst 0, 1) := by decide +kernel
theorem dX6_manyOf_3 : decode cX6_manyOf 3 = .ok (.istore_n 3, 1) := by decide +kernel
theorem dX6_manyOf_4 : decode cX6_manyOf 4 = .ok (.iload_n 3, 1) := by decide +kernel
theorem dX6_manyOf_5 : decode cX6_manyOf 5 = .ok (.aload_n 0, 1) := by decide +kernel
theorem dX6_manyOf_6 : decode cX6_manyOf 6 = .ok (.getfield 64, 3) := by decide +kernel
theorem dX6_manyOf_9 : decode cX6_manyOf 9 = .ok (.if_icmp .ge 23, 3) := by decide +kernel
theorem dX6_manyOf_12 : decode cX6_manyOf 12 = .ok (.iload_n 1, 1) := by decide +kernel
theorem dX6_manyOf_13 : decode cX6_manyOf 13 = .ok (.iconst 1, 1) := by decide +kernel
theorem dX6_manyOf_14 : decode cX6_manyOf 14 = .ok (.if_icmp .ne 18, 3) := by decide +kernel
theorem dX6_manyOf_17 : decode cX6_manyOf 17 = .ok (.iload_n 2, 1) := by decide +kernel
theorem dX6_manyOf_18 : decode cX6_manyOf 18 = .ok (.aload_n 0, 1) := by decide +kernel
theorem dX6_manyOf_19 : decode cX6_manyOf 19 = .ok (.getfield 29, 3) := by decide +kernel
theorem dX6_manyOf_22 : decode cX6_manyOf 22 = .ok (.iload_n 3, 1) := by decide +kernel
theorem dX6_manyOf_23 : decode cX6_manyOf 23 = .ok (.iaload, 1) := by decide +kernel
theorem dX6_manyOf_24 : decode cX6_manyOf 24 = .ok (.iadd, 1) := by decide +kernel
theorem dX6_manyOf_25 : decode cX6_manyOf 25 = .ok (.istore_n 2, 1) := by decide +kernel
theorem dX6_manyOf_26 : decode cX6_manyOf 26 = .ok (.iinc 3 1, 3) := by decide +kernel
theorem dX6_manyOf_29 : decode cX6_manyOf 29 = .ok (.goto (-25), 3) := by decide +kernel
theorem dX6_manyOf_32 : decode cX6_manyOf 32 = .ok (.iconst 0, 1) := by decide +kernel
theorem dX6_manyOf_33 : decode cX6_manyOf 33 = .ok (.istore_n 3, 1) := by decide +kernel
theorem dX6_manyOf_34 : decode cX6_manyOf 34 = .ok (.iload_n 3, 1) := by decide +kernel
theorem dX6_manyOf_35 : decode cX6_manyOf 35 = .ok (.bipush 8, 2) := by decide +kernel
theorem dX6_manyOf_37 : decode cX6_manyOf 37 = .ok (.if_icmp .ge 23, 3) := by decide +kernel
theorem dX6_manyOf_40 : decode cX6_manyOf 40 = .ok (.iload_n 1, 1) := by decide +kernel
theorem dX6_manyOf_41 : decode cX6_manyOf 41 = .ok (.iconst 4, 1) := by decide +kernel
theorem dX6_manyOf_42 : decode cX6_manyOf 42 = .ok (.if_icmp .ne 18, 3) := by decide +kernel
theorem dX6_manyOf_45 : decode cX6_manyOf 45 = .ok (.iload_n 2, 1) := by decide +kernel
theorem dX6_manyOf_46 : decode cX6_manyOf 46 = .ok (.aload_n 0, 1) := by decide +kernel
theorem dX6_manyOf_47 : decode cX6_manyOf 47 = .ok (.getfield 35, 3) := by decide +kernel
theorem dX6_manyOf_50 : decode cX6_manyOf 50 = .ok (.iload_n 3, 1) := by decide +kernel
theorem dX6_manyOf_51 : decode cX6_manyOf 51 = .ok (.iaload, 1) := by decide +kernel
theorem dX6_manyOf_52 : decode cX6_manyOf 52 = .ok (.iadd, 1) := by decide +kernel
theorem dX6_manyOf_53 : decode cX6_manyOf 53 = .ok (.istore_n 2, 1) := by decide +kernel
theorem dX6_manyOf_54 : decode cX6_manyOf 54 = .ok (.iinc 3 1, 3) := by decide +kernel
theorem dX6_manyOf_57 : decode cX6_manyOf 57 = .ok (.goto (-23), 3) := by decide +kernel
theorem dX6_manyOf_60 : decode cX6_manyOf 60 = .ok (.iload_n 1, 1) := by decide +kernel
theorem dX6_manyOf_61 : decode cX6_manyOf 61 = .ok (.ifCond .ne 10, 3) := by decide +kernel
theorem dX6_manyOf_64 : decode cX6_manyOf 64 = .ok (.aload_n 0, 1) := by decide +kernel
theorem dX6_manyOf_65 : decode cX6_manyOf 65 = .ok (.getfield 64, 3) := by decide +kernel
theorem dX6_manyOf_68 : decode cX6_manyOf 68 = .ok (.goto 28, 3) := by decide +kernel
theorem dX6_manyOf_71 : decode cX6_manyOf 71 = .ok (.iload_n 1, 1) := by decide +kernel
theorem dX6_manyOf_72 : decode cX6_manyOf 72 = .ok (.iconst 2, 1) := by decide +kernel
theorem dX6_manyOf_73 : decode cX6_manyOf 73 = .ok (.if_icmp .ne 10, 3) := by decide +kernel
theorem dX6_manyOf_76 : decode cX6_manyOf 76 = .ok (.aload_n 0, 1) := by decide +kernel
theorem dX6_manyOf_77 : decode cX6_manyOf 77 = .ok (.getfield 149, 3) := by decide +kernel
theorem dX6_manyOf_80 : decode cX6_manyOf 80 = .ok (.goto 16, 3) := by decide +kernel
theorem dX6_manyOf_83 : decode cX6_manyOf 83 = .ok (.iload_n 1, 1) := by decide +kernel
theorem dX6_manyOf_84 : decode cX6_manyOf 84 = .ok (.iconst 3, 1) := by decide +kernel
theorem dX6_manyOf_85 : decode cX6_manyOf 85 = .ok (.if_icmp .ne 10, 3) := by decide +kernel
theorem dX6_manyOf_88 : decode cX6_manyOf 88 = .ok (.aload_n 0, 1) := by decide +kernel
theorem dX6_manyOf_89 : decode cX6_manyOf 89 = .ok (.getfield 152, 3) := by decide +kernel
theorem dX6_manyOf_92 : decode cX6_manyOf 92 = .ok (.goto 4, 3) := by decide +kernel
theorem dX6_manyOf_95 : decode cX6_manyOf 95 = .ok (.iload_n 2, 1) := by decide +kernel
theorem dX6_manyOf_96 : decode cX6_manyOf 96 = .ok (.ireturn, 1) := by decide +kernel
set_option maxRecDepth 20000 in
theorem ggX6_many_X6_in : GoodIn wsX6_many wsX6_in := goodIn_r _ [5] (by decide +kernel) (by decide +kernel)
set_option maxRecDepth 20000 in
theorem gX6_many_X6_in : GoodIn wsX6_many (va_wsS RX6 52 yX6_in wsX6_in) := goodIn_app (goodIn_of _ (by decide +kernel)) ggX6_many_X6_in
set_option maxRecDepth 20000 in
theorem ggX6_many_X6_manyOf : GoodIn wsX6_many wsX6_manyOf := goodIn_r _ [9, 10, 11, 12, 13, 14, 15, 16, 17, 18, 19, 20, 21, 22, 23, 24, 25, 26, 27, 28, 29, 30, 31, 32] (by decide +kernel) (by decide +kernel)
set_option maxRecDepth 20000 in
theorem gX6_many_X6_manyOf : GoodIn wsX6_many (wsV RX6 173 RX6 yX6_manyOf wsX6_manyOf) := goodIn_app (goodIn_of _ (by decide +kernel)) ggX6_many_X6_manyOf
theorem dX6_many_0 : decode cX6_many 0 = .ok (.iload_n 1, 1) := by decide +kernel
theorem dX6_many_1 : decode cX6_many 1 = .ok (.i2l, 1) := by decide +kernel
theorem dX6_many_2 : decode cX6_many 2 = .ok (.lconst 0, 1) := by decide +kernel
theorem dX6_many_3 : decode cX6_many 3 = .ok (.ldc2_w 171, 3) := by decide +kernel
theorem dX6_many_6 : decode cX6_many 6 = .ok (.invokestatic 52, 3) := by decide +kernel
theorem dX6_many_9 : decode cX6_many 9 = .ok (.ifCond .eq 11, 3) := by decide +kernel
theorem dX6_many_12 : decode cX6_many 12 = .ok (.aload_n 0, 1) := by decide +kernel
theorem dX6_many_13 : decode cX6_many 13 = .ok (.iload_n 1, 1) := by decide +kernel
theorem dX6_many_14 : decode cX6_many 14 = .ok (.invokevirtual 173, 3) := by decide +kernel
theorem dX6_many_17 : decode cX6_many 17 = .ok (.goto 5, 3) := by decide +kernel
theorem dX6_many_20 : decode cX6_many 20 = .ok (.bipush (-2), 2) := by decide +kernel
theorem dX6_many_22 : decode cX6_many 22 = .ok (.ireturn, 1) := by decide +kernel
set_option maxRecDepth 20000 in
theorem ggX6_digest_X6_manyOf : GoodIn wsX6_digest wsX6_manyOf := goodIn_r _ [13, 3, 14, 4, 15, 6, 32, 33, 34, 35, 36, 37, 38, 39, 40, 41, 42, 43, 44, 45, 46, 47, 48, 49] (by decide +kernel) (by decide +kernel)
set_option maxRecDepth 20000 in
theorem gX6_digest_X6_manyOf : GoodIn wsX6_digest (wsV RX6 173 RX6 yX6_manyOf wsX6_manyOf) := goodIn_app (goodIn_of _ (by decide +kernel)) ggX6_digest_X6_manyOf
set_option maxRecDepth 20000 in
theorem ggX6_digest_X6_countOf : GoodIn wsX6_digest wsX6_countOf := goodIn_r _ [19, 20, 21, 22, 23, 24, 25, 26, 27, 28, 29, 30, 12, 31, 32, 33, 34, 35, 36, 37, 38, 39, 40, 41, 42, 43, 44, 45, 46, 47, 48, 49] (by decide +kernel) (by decide +kernel)
set_option maxRecDepth 20000 in
theorem gX6_digest_X6_countOf : GoodIn wsX6_digest (wsV RX6 81 RX6 yX6_countOf wsX6_countOf) := goodIn_app (goodIn_of _ (by decide +kernel)) ggX6_digest_X6_countOf
theorem dX6_digest_0 : decode cX6_digest 0 = .ok (.ldc2_w 177, 3) := by decide +kernel
theorem dX6_digest_3 : decode cX6_digest 3 = .ok (.lstore_n 1, 1) := by decide +kernel
theorem dX6_digest_4 : decode cX6_digest 4 = .ok (.iconst 0, 1) := by decide +kernel
theorem dX6_digest_5 : decode cX6_digest 5 = .ok (.istore_n 3, 1) := by decide +kernel
theorem dX6_digest_6 : decode cX6_digest 6 = .ok (.iload_n 3, 1) := by decide +kernel
theorem dX6_digest_7 : decode cX6_digest 7 = .ok (.iconst 5, 1) := by decide +kernel
theorem dX6_digest_8 : decode cX6_digest 8 = .ok (.if_icmp .ge 22, 3) := by decide +kernel
theorem dX6_digest_11 : decode cX6_digest 11 = .ok (.ldc2_w 179, 3) := by decide +kernel
theorem dX6_digest_14 : decode cX6_digest 14 = .ok (.lload_n 1, 1) := by decide +kernel
theorem dX6_digest_15 : decode cX6_digest 15 = .ok (.lmul, 1) := by decide +kernel
theorem dX6_digest_16 : decode cX6_digest 16 = .ok (.aload_n 0, 1) := by decide +kernel
theorem dX6_digest_17 : decode cX6_digest 17 = .ok (.iload_n 3, 1) := by decide +kernel
theorem dX6_digest_18 : decode cX6_digest 18 = .ok (.invokevirtual 173, 3) := by decide +kernel
theorem dX6_digest_21 : decode cX6_digest 21 = .ok (.i2l, 1) := by decide +kernel
theorem dX6_digest_22 : decode cX6_digest 22 = .ok (.ladd, 1) := by decide +kernel
theorem dX6_digest_23 : decode cX6_digest 23 = .ok (.lstore_n 1, 1) := by decide +kernel
theorem dX6_digest_24 : decode cX6_digest 24 = .ok (.iinc 3 1, 3) := by decide +kernel
theorem dX6_digest_27 : decode cX6_digest 27 = .ok (.goto (-21), 3) := by decide +kernel
theorem dX6_digest_30 : decode cX6_digest 30 = .ok (.ldc2_w 179, 3) := by decide +kernel
theorem dX6_digest_33 : decode cX6_digest 33 = .ok (.lload_n 1, 1) := by decide +kernel
theorem dX6_digest_34 : decode cX6_digest 34 = .ok (.lmul, 1) := by decide +kernel
theorem dX6_digest_35 : decode cX6_digest 35 = .ok (.aload_n 0, 1) := by decide +kernel
theorem dX6_digest_36 : decode cX6_digest 36 = .ok (.aload_n 0, 1) := by decide +kernel
theorem dX6_digest_37 : decode cX6_digest 37 = .ok (.getfield 64, 3) := by decide +kernel
theorem dX6_digest_40 : decode cX6_digest 40 = .ok (.iconst 0, 1) := by decide +kernel
theorem dX6_digest_41 : decode cX6_digest 41 = .ok (.invokevirtual 81, 3) := by decide +kernel
theorem dX6_digest_44 : decode cX6_digest 44 = .ok (.ladd, 1) := by decide +kernel
theorem dX6_digest_45 : decode cX6_digest 45 = .ok (.lstore_n 1, 1) := by decide +kernel
theorem dX6_digest_46 : decode cX6_digest 46 = .ok (.ldc2_w 179, 3) := by decide +kernel
theorem dX6_digest_49 : decode cX6_digest 49 = .ok (.lload_n 1, 1) := by decide +kernel
theorem dX6_digest_50 : decode cX6_digest 50 = .ok (.lmul, 1) := by decide +kernel
theorem dX6_digest_51 : decode cX6_digest 51 = .ok (.aload_n 0, 1) := by decide +kernel
theorem dX6_digest_52 : decode cX6_digest 52 = .ok (.aload_n 0, 1) := by decide +kernel
theorem dX6_digest_53 : decode cX6_digest 53 = .ok (.getfield 64, 3) := by decide +kernel
theorem dX6_digest_56 : decode cX6_digest 56 = .ok (.iconst 1, 1) := by decide +kernel
theorem dX6_digest_57 : decode cX6_digest 57 = .ok (.invokevirtual 81, 3) := by decide +kernel
theorem dX6_digest_60 : decode cX6_digest 60 = .ok (.ladd, 1) := by decide +kernel
theorem dX6_digest_61 : decode cX6_digest 61 = .ok (.lstore_n 1, 1) := by decide +kernel
theorem dX6_digest_62 : decode cX6_digest 62 = .ok (.iconst 0, 1) := by decide +kernel
theorem dX6_digest_63 : decode cX6_digest 63 = .ok (.istore_n 3, 1) := by decide +kernel
theorem dX6_digest_64 : decode cX6_digest 64 = .ok (.iload_n 3, 1) := by decide +kernel
theorem dX6_digest_65 : decode cX6_digest 65 = .ok (.bipush 8, 2) := by decide +kernel
theorem dX6_digest_67 : decode cX6_digest 67 = .ok (.if_icmp .ge 50, 3) := by decide +kernel
theorem dX6_digest_70 : decode cX6_digest 70 = .ok (.iconst 0, 1) := by decide +kernel
theorem dX6_digest_71 : decode cX6_digest 71 = .ok (.istore 4, 2) := by decide +kernel
theorem dX6_digest_73 : decode cX6_digest 73 = .ok (.iload 4, 2) := by decide +kernel
theorem dX6_digest_75 : decode cX6_digest 75 = .ok (.aload_n 0, 1) := by decide +kernel
theorem dX6_digest_76 : decode cX6_digest 76 = .ok (.getfield 35, 3) := by decide +kernel
theorem dX6_digest_79 : decode cX6_digest 79 = .ok (.iload_n 3, 1) := by decide +kernel
theorem dX6_digest_80 : decode cX6_digest 80 = .ok (.iaload, 1) := by decide +kernel
theorem dX6_digest_81 : decode cX6_digest 81 = .ok (.if_icmp .ge 30, 3) := by decide +kernel
theorem dX6_digest_84 : decode cX6_digest 84 = .ok (.ldc2_w 179, 3) := by decide +kernel
theorem dX6_digest_87 : decode cX6_digest 87 = .ok (.lload_n 1, 1) := by decide +kernel
theorem dX6_digest_88 : decode cX6_digest 88 = .ok (.lmul, 1) := by decide +kernel
theorem dX6_digest_89 : decode cX6_digest 89 = .ok (.aload_n 0, 1) := by decide +kernel
theorem dX6_digest_90 : decode cX6_digest 90 = .ok (.getfield 38, 3) := by decide +kernel
theorem dX6_digest_93 : decode cX6_digest 93 = .ok (.sipush 400, 3) := by decide +kernel
theorem dX6_digest_96 : decode cX6_digest 96 = .ok (.iload_n 3, 1) := by decide +kernel
theorem dX6_digest_97 : decode cX6_digest 97 = .ok (.imul, 1) := by decide +kernel
theorem dX6_digest_98 : decode cX6_digest 98 = .ok (.iload 4, 2) := by decide +kernel
theorem dX6_digest_100 : decode cX6_digest 100 = .ok (.iadd, 1) := by decide +kernel
theorem dX6_digest_101 : decode cX6_digest 101 = .ok (.iaload, 1) := by decide +kernel
theorem dX6_digest_102 : decode cX6_digest 102 = .ok (.i2l, 1) := by decide +kernel
theorem dX6_digest_103 : decode cX6_digest 103 = .ok (.ladd, 1) := by decide +kernel
theorem dX6_digest_104 : decode cX6_digest 104 = .ok (.lstore_n 1, 1) := by decide +kernel
theorem dX6_digest_105 : decode cX6_digest 105 = .ok (.iinc 4 1, 3) := by decide +kernel
theorem dX6_digest_108 : decode cX6_digest 108 = .ok (.goto (-35), 3) := by decide +kernel
theorem dX6_digest_111 : decode cX6_digest 111 = .ok (.iinc 3 1, 3) := by decide +kernel
theorem dX6_digest_114 : decode cX6_digest 114 = .ok (.goto (-50), 3) := by decide +kernel
theorem dX6_digest_117 : decode cX6_digest 117 = .ok (.iconst 0, 1) := by decide +kernel
theorem dX6_digest_118 : decode cX6_digest 118 = .ok (.istore_n 3, 1) := by decide +kernel
theorem dX6_digest_119 : decode cX6_digest 119 = .ok (.iload_n 3, 1) := by decide +kernel
theorem dX6_digest_120 : decode cX6_digest 120 = .ok (.aload_n 0, 1) := by decide +kernel
theorem dX6_digest_121 : decode cX6_digest 121 = .ok (.getfield 152, 3) := by decide +kernel
theorem dX6_digest_124 : decode cX6_digest 124 = .ok (.aload_n 0, 1) := by decide +kernel
theorem dX6_digest_125 : decode cX6_digest 125 = .ok (.getfield 160, 3) := by decide +kernel
theorem dX6_digest_128 : decode cX6_digest 128 = .ok (.imul, 1) := by decide +kernel
theorem dX6_digest_129 : decode cX6_digest 129 = .ok (.if_icmp .ge 23, 3) := by decide +kernel
theorem dX6_digest_132 : decode cX6_digest 132 = .ok (.ldc2_w 179, 3) := by decide +kernel
theorem dX6_digest_135 : decode cX6_digest 135 = .ok (.lload_n 1, 1) := by decide +kernel
theorem dX6_digest_136 : decode cX6_digest 136 = .ok (.lmul, 1) := by decide +kernel
theorem dX6_digest_137 : decode cX6_digest 137 = .ok (.aload_n 0, 1) := by decide +kernel
theorem dX6_digest_138 : decode cX6_digest 138 = .ok (.getfield 47, 3) := by decide +kernel
theorem dX6_digest_141 : decode cX6_digest 141 = .ok (.iload_n 3, 1) := by decide +kernel
theorem dX6_digest_142 : decode cX6_digest 142 = .ok (.iaload, 1) := by decide +kernel
theorem dX6_digest_143 : decode cX6_digest 143 = .ok (.i2l, 1) := by decide +kernel
theorem dX6_digest_144 : decode cX6_digest 144 = .ok (.ladd, 1) := by decide +kernel
theorem dX6_digest_145 : decode cX6_digest 145 = .ok (.lstore_n 1, 1) := by decide +kernel
theorem dX6_digest_146 : decode cX6_digest 146 = .ok (.iinc 3 1, 3) := by decide +kernel
theorem dX6_digest_149 : decode cX6_digest 149 = .ok (.goto (-30), 3) := by decide +kernel
theorem dX6_digest_152 : decode cX6_digest 152 = .ok (.lload_n 1, 1) := by decide +kernel
theorem dX6_digest_153 : decode cX6_digest 153 = .ok (.lreturn, 1) := by decide +kernel
