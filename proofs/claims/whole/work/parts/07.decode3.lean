theorem dX8_init_257 : decode cX8_init 257 = .ok (.aload_n 0, 1) := by decide +kernel
theorem dX8_init_258 : decode cX8_init 258 = .ok (.iconst 4, 1) := by decide +kernel
theorem dX8_init_259 : decode cX8_init 259 = .ok (.newarray .int, 2) := by decide +kernel
theorem dX8_init_261 : decode cX8_init 261 = .ok (.putfield 105, 3) := by decide +kernel
theorem dX8_init_264 : decode cX8_init 264 = .ok (.iconst 0, 1) := by decide +kernel
theorem dX8_init_265 : decode cX8_init 265 = .ok (.istore_n 1, 1) := by decide +kernel
theorem dX8_init_266 : decode cX8_init 266 = .ok (.iload_n 1, 1) := by decide +kernel
theorem dX8_init_267 : decode cX8_init 267 = .ok (.bipush 32, 2) := by decide +kernel
theorem dX8_init_269 : decode cX8_init 269 = .ok (.if_icmp .ge 23, 3) := by decide +kernel
theorem dX8_init_272 : decode cX8_init 272 = .ok (.aload_n 0, 1) := by decide +kernel
theorem dX8_init_273 : decode cX8_init 273 = .ok (.getfield 75, 3) := by decide +kernel
theorem dX8_init_276 : decode cX8_init 276 = .ok (.iload_n 1, 1) := by decide +kernel
theorem dX8_init_277 : decode cX8_init 277 = .ok (.iconst (-1), 1) := by decide +kernel
theorem dX8_init_278 : decode cX8_init 278 = .ok (.iastore, 1) := by decide +kernel
theorem dX8_init_279 : decode cX8_init 279 = .ok (.aload_n 0, 1) := by decide +kernel
theorem dX8_init_280 : decode cX8_init 280 = .ok (.getfield 78, 3) := by decide +kernel
theorem dX8_init_283 : decode cX8_init 283 = .ok (.iload_n 1, 1) := by decide +kernel
theorem dX8_init_284 : decode cX8_init 284 = .ok (.iconst (-1), 1) := by decide +kernel
theorem dX8_init_285 : decode cX8_init 285 = .ok (.iastore, 1) := by decide +kernel
theorem dX8_init_286 : decode cX8_init 286 = .ok (.iinc 1 1, 3) := by decide +kernel
theorem dX8_init_289 : decode cX8_init 289 = .ok (.goto (-23), 3) := by decide +kernel
theorem dX8_init_292 : decode cX8_init 292 = .ok (.iconst 0, 1) := by decide +kernel
theorem dX8_init_293 : decode cX8_init 293 = .ok (.istore_n 1, 1) := by decide +kernel
theorem dX8_init_294 : decode cX8_init 294 = .ok (.iload_n 1, 1) := by decide +kernel
theorem dX8_init_295 : decode cX8_init 295 = .ok (.sipush 3200, 3) := by decide +kernel
theorem dX8_init_298 : decode cX8_init 298 = .ok (.if_icmp .ge 16, 3) := by decide +kernel
theorem dX8_init_301 : decode cX8_init 301 = .ok (.aload_n 0, 1) := by decide +kernel
theorem dX8_init_302 : decode cX8_init 302 = .ok (.getfield 53, 3) := by decide +kernel
theorem dX8_init_305 : decode cX8_init 305 = .ok (.iload_n 1, 1) := by decide +kernel
theorem dX8_init_306 : decode cX8_init 306 = .ok (.iconst (-1), 1) := by decide +kernel
theorem dX8_init_307 : decode cX8_init 307 = .ok (.iastore, 1) := by decide +kernel
theorem dX8_init_308 : decode cX8_init 308 = .ok (.iinc 1 1, 3) := by decide +kernel
theorem dX8_init_311 : decode cX8_init 311 = .ok (.goto (-17), 3) := by decide +kernel
theorem dX8_init_314 : decode cX8_init 314 = .ok (.aload_n 0, 1) := by decide +kernel
theorem dX8_init_315 : decode cX8_init 315 = .ok (.invokevirtual 108, 3) := by decide +kernel
theorem dX8_init_318 : decode cX8_init 318 = .ok (.return_, 1) := by decide +kernel
theorem dX8_in_0 : decode cX8_in 0 = .ok (.iload_n 0, 1) := by decide +kernel
theorem dX8_in_1 : decode cX8_in 1 = .ok (.iload_n 1, 1) := by decide +kernel
theorem dX8_in_2 : decode cX8_in 2 = .ok (.if_icmp .lt 12, 3) := by decide +kernel
theorem dX8_in_5 : decode cX8_in 5 = .ok (.iload_n 0, 1) := by decide +kernel
theorem dX8_in_6 : decode cX8_in 6 = .ok (.iload_n 2, 1) := by decide +kernel
theorem dX8_in_7 : decode cX8_in 7 = .ok (.if_icmp .gt 7, 3) := by decide +kernel
theorem dX8_in_10 : decode cX8_in 10 = .ok (.iconst 1, 1) := by decide +kernel
theorem dX8_in_11 : decode cX8_in 11 = .ok (.goto 4, 3) := by decide +kernel
theorem dX8_in_14 : decode cX8_in 14 = .ok (.iconst 0, 1) := by decide +kernel
theorem dX8_in_15 : decode cX8_in 15 = .ok (.ireturn, 1) := by decide +kernel
theorem dX8_isTown_0 : decode cX8_isTown 0 = .ok (.iload_n 1, 1) := by decide +kernel
theorem dX8_isTown_1 : decode cX8_isTown 1 = .ok (.iconst 0, 1) := by decide +kernel
theorem dX8_isTown_2 : decode cX8_isTown 2 = .ok (.aload_n 0, 1) := by decide +kernel
theorem dX8_isTown_3 : decode cX8_isTown 3 = .ok (.getfield 111, 3) := by decide +kernel
theorem dX8_isTown_6 : decode cX8_isTown 6 = .ok (.iconst 1, 1) := by decide +kernel
theorem dX8_isTown_7 : decode cX8_isTown 7 = .ok (.isub, 1) := by decide +kernel
theorem dX8_isTown_8 : decode cX8_isTown 8 = .ok (.invokestatic 114, 3) := by decide +kernel
theorem dX8_isTown_11 : decode cX8_isTown 11 = .ok (.ireturn, 1) := by decide +kernel
theorem dX8_isRoad_0 : decode cX8_isRoad 0 = .ok (.iload_n 1, 1) := by decide +kernel
theorem dX8_isRoad_1 : decode cX8_isRoad 1 = .ok (.iconst 0, 1) := by decide +kernel
theorem dX8_isRoad_2 : decode cX8_isRoad 2 = .ok (.aload_n 0, 1) := by decide +kernel
theorem dX8_isRoad_3 : decode cX8_isRoad 3 = .ok (.getfield 118, 3) := by decide +kernel
theorem dX8_isRoad_6 : decode cX8_isRoad 6 = .ok (.iconst 1, 1) := by decide +kernel
theorem dX8_isRoad_7 : decode cX8_isRoad 7 = .ok (.isub, 1) := by decide +kernel
theorem dX8_isRoad_8 : decode cX8_isRoad 8 = .ok (.invokestatic 114, 3) := by decide +kernel
theorem dX8_isRoad_11 : decode cX8_isRoad 11 = .ok (.ireturn, 1) := by decide +kernel
theorem dX8_isCrowd_0 : decode cX8_isCrowd 0 = .ok (.iload_n 1, 1) := by decide +kernel
theorem dX8_isCrowd_1 : decode cX8_isCrowd 1 = .ok (.iconst 0, 1) := by decide +kernel
theorem dX8_isCrowd_2 : decode cX8_isCrowd 2 = .ok (.aload_n 0, 1) := by decide +kernel
theorem dX8_isCrowd_3 : decode cX8_isCrowd 3 = .ok (.getfield 121, 3) := by decide +kernel
theorem dX8_isCrowd_6 : decode cX8_isCrowd 6 = .ok (.iconst 1, 1) := by decide +kernel
theorem dX8_isCrowd_7 : decode cX8_isCrowd 7 = .ok (.isub, 1) := by decide +kernel
theorem dX8_isCrowd_8 : decode cX8_isCrowd 8 = .ok (.invokestatic 114, 3) := by decide +kernel
theorem dX8_isCrowd_11 : decode cX8_isCrowd 11 = .ok (.ireturn, 1) := by decide +kernel
theorem dX8_town_0 : decode cX8_town 0 = .ok (.iload_n 1, 1) := by decide +kernel
theorem dX8_town_1 : decode cX8_town 1 = .ok (.iconst 0, 1) := by decide +kernel
theorem dX8_town_2 : decode cX8_town 2 = .ok (.bipush 99, 2) := by decide +kernel
theorem dX8_town_4 : decode cX8_town 4 = .ok (.invokestatic 114, 3) := by decide +kernel
theorem dX8_town_7 : decode cX8_town 7 = .ok (.ifCond .eq 22, 3) := by decide +kernel
theorem dX8_town_10 : decode cX8_town 10 = .ok (.iload_n 2, 1) := by decide +kernel
theorem dX8_town_11 : decode cX8_town 11 = .ok (.iconst 0, 1) := by decide +kernel
theorem dX8_town_12 : decode cX8_town 12 = .ok (.ldc 124, 2) := by decide +kernel
theorem dX8_town_14 : decode cX8_town 14 = .ok (.invokestatic 114, 3) := by decide +kernel
theorem dX8_town_17 : decode cX8_town 17 = .ok (.ifCond .eq 12, 3) := by decide +kernel
theorem dX8_town_20 : decode cX8_town 20 = .ok (.aload_n 0, 1) := by decide +kernel
theorem dX8_town_21 : decode cX8_town 21 = .ok (.getfield 111, 3) := by decide +kernel
theorem dX8_town_24 : decode cX8_town 24 = .ok (.bipush 10, 2) := by decide +kernel
theorem dX8_town_26 : decode cX8_town 26 = .ok (.if_icmp .ne 5, 3) := by decide +kernel
theorem dX8_town_29 : decode cX8_town 29 = .ok (.iconst (-1), 1) := by decide +kernel
theorem dX8_town_30 : decode cX8_town 30 = .ok (.ireturn, 1) := by decide +kernel
theorem dX8_town_31 : decode cX8_town 31 = .ok (.aload_n 0, 1) := by decide +kernel
theorem dX8_town_32 : decode cX8_town 32 = .ok (.getfield 9, 3) := by decide +kernel
theorem dX8_town_35 : decode cX8_town 35 = .ok (.aload_n 0, 1) := by decide +kernel
theorem dX8_town_36 : decode cX8_town 36 = .ok (.getfield 111, 3) := by decide +kernel
theorem dX8_town_39 : decode cX8_town 39 = .ok (.iload_n 1, 1) := by decide +kernel
theorem dX8_town_40 : decode cX8_town 40 = .ok (.iastore, 1) := by decide +kernel
theorem dX8_town_41 : decode cX8_town 41 = .ok (.aload_n 0, 1) := by decide +kernel
theorem dX8_town_42 : decode cX8_town 42 = .ok (.getfield 90, 3) := by decide +kernel
theorem dX8_town_45 : decode cX8_town 45 = .ok (.aload_n 0, 1) := by decide +kernel
theorem dX8_town_46 : decode cX8_town 46 = .ok (.getfield 111, 3) := by decide +kernel
theorem dX8_town_49 : decode cX8_town 49 = .ok (.iload_n 2, 1) := by decide +kernel
theorem dX8_town_50 : decode cX8_town 50 = .ok (.iastore, 1) := by decide +kernel
theorem dX8_town_51 : decode cX8_town 51 = .ok (.aload_n 0, 1) := by decide +kernel
theorem dX8_town_52 : decode cX8_town 52 = .ok (.dup, 1) := by decide +kernel
theorem dX8_town_53 : decode cX8_town 53 = .ok (.getfield 111, 3) := by decide +kernel
theorem dX8_town_56 : decode cX8_town 56 = .ok (.iconst 1, 1) := by decide +kernel
theorem dX8_town_57 : decode cX8_town 57 = .ok (.iadd, 1) := by decide +kernel
theorem dX8_town_58 : decode cX8_town 58 = .ok (.putfield 111, 3) := by decide +kernel
theorem dX8_town_61 : decode cX8_town 61 = .ok (.aload_n 0, 1) := by decide +kernel
theorem dX8_town_62 : decode cX8_town 62 = .ok (.getfield 111, 3) := by decide +kernel
theorem dX8_town_65 : decode cX8_town 65 = .ok (.iconst 1, 1) := by decide +kernel
theorem dX8_town_66 : decode cX8_town 66 = .ok (.isub, 1) := by decide +kernel
theorem dX8_town_67 : decode cX8_town 67 = .ok (.ireturn, 1) := by decide +kernel
theorem dX8_path_0 : decode cX8_path 0 = .ok (.iload_n 1, 1) := by decide +kernel
theorem dX8_path_1 : decode cX8_path 1 = .ok (.iconst 1, 1) := by decide +kernel
theorem dX8_path_2 : decode cX8_path 2 = .ok (.bipush 100, 2) := by decide +kernel
theorem dX8_path_4 : decode cX8_path 4 = .ok (.invokestatic 114, 3) := by decide +kernel
theorem dX8_path_7 : decode cX8_path 7 = .ok (.ifCond .ne 5, 3) := by decide +kernel
theorem dX8_path_10 : decode cX8_path 10 = .ok (.iconst 0, 1) := by decide +kernel
theorem dX8_path_11 : decode cX8_path 11 = .ok (.ireturn, 1) := by decide +kernel
theorem dX8_path_12 : decode cX8_path 12 = .ok (.aload_n 0, 1) := by decide +kernel
theorem dX8_path_13 : decode cX8_path 13 = .ok (.iload_n 1, 1) := by decide +kernel
theorem dX8_path_14 : decode cX8_path 14 = .ok (.putfield 16, 3) := by decide +kernel
theorem dX8_path_17 : decode cX8_path 17 = .ok (.iconst 1, 1) := by decide +kernel
theorem dX8_path_18 : decode cX8_path 18 = .ok (.ireturn, 1) := by decide +kernel
theorem dX8_seconds_0 : decode cX8_seconds 0 = .ok (.aload_n 0, 1) := by decide +kernel
theorem dX8_seconds_1 : decode cX8_seconds 1 = .ok (.iload_n 1, 1) := by decide +kernel
theorem dX8_seconds_2 : decode cX8_seconds 2 = .ok (.invokevirtual 125, 3) := by decide +kernel
theorem dX8_seconds_5 : decode cX8_seconds 5 = .ok (.ifCond .ne 5, 3) := by decide +kernel
theorem dX8_seconds_8 : decode cX8_seconds 8 = .ok (.iconst (-1), 1) := by decide +kernel
theorem dX8_seconds_9 : decode cX8_seconds 9 = .ok (.ireturn, 1) := by decide +kernel
theorem dX8_seconds_10 : decode cX8_seconds 10 = .ok (.aload_n 0, 1) := by decide +kernel
theorem dX8_seconds_11 : decode cX8_seconds 11 = .ok (.getfield 16, 3) := by decide +kernel
theorem dX8_seconds_14 : decode cX8_seconds 14 = .ok (.aload_n 0, 1) := by decide +kernel
theorem dX8_seconds_15 : decode cX8_seconds 15 = .ok (.getfield 16, 3) := by decide +kernel
theorem dX8_seconds_18 : decode cX8_seconds 18 = .ok (.imul, 1) := by decide +kernel
theorem dX8_seconds_19 : decode cX8_seconds 19 = .ok (.aload_n 0, 1) := by decide +kernel
theorem dX8_seconds_20 : decode cX8_seconds 20 = .ok (.getfield 9, 3) := by decide +kernel
theorem dX8_seconds_23 : decode cX8_seconds 23 = .ok (.iload_n 1, 1) := by decide +kernel
theorem dX8_seconds_24 : decode cX8_seconds 24 = .ok (.iaload, 1) := by decide +kernel
theorem dX8_seconds_25 : decode cX8_seconds 25 = .ok (.aload_n 0, 1) := by decide +kernel
theorem dX8_seconds_26 : decode cX8_seconds 26 = .ok (.getfield 9, 3) := by decide +kernel
theorem dX8_seconds_29 : decode cX8_seconds 29 = .ok (.iload_n 1, 1) := by decide +kernel
theorem dX8_seconds_30 : decode cX8_seconds 30 = .ok (.iaload, 1) := by decide +kernel
theorem dX8_seconds_31 : decode cX8_seconds 31 = .ok (.imul, 1) := by decide +kernel
theorem dX8_seconds_32 : decode cX8_seconds 32 = .ok (.isub, 1) := by decide +kernel
theorem dX8_seconds_33 : decode cX8_seconds 33 = .ok (.istore_n 2, 1) := by decide +kernel
theorem dX8_seconds_34 : decode cX8_seconds 34 = .ok (.iconst 0, 1) := by decide +kernel
theorem dX8_seconds_35 : decode cX8_seconds 35 = .ok (.istore_n 3, 1) := by decide +kernel
theorem dX8_seconds_36 : decode cX8_seconds 36 = .ok (.iload_n 2, 1) := by decide +kernel
theorem dX8_seconds_37 : decode cX8_seconds 37 = .ok (.ifCond .le 20, 3) := by decide +kernel
theorem dX8_seconds_40 : decode cX8_seconds 40 = .ok (.iload_n 3, 1) := by decide +kernel
theorem dX8_seconds_41 : decode cX8_seconds 41 = .ok (.iconst 1, 1) := by decide +kernel
theorem dX8_seconds_42 : decode cX8_seconds 42 = .ok (.iadd, 1) := by decide +kernel
theorem dX8_seconds_43 : decode cX8_seconds 43 = .ok (.iload_n 3, 1) := by decide +kernel
theorem dX8_seconds_44 : decode cX8_seconds 44 = .ok (.iconst 1, 1) := by decide +kernel
theorem dX8_seconds_45 : decode cX8_seconds 45 = .ok (.iadd, 1) := by decide +kernel
theorem dX8_seconds_46 : decode cX8_seconds 46 = .ok (.imul, 1) := by decide +kernel
theorem dX8_seconds_47 : decode cX8_seconds 47 = .ok (.iload_n 2, 1) := by decide +kernel
theorem dX8_seconds_48 : decode cX8_seconds 48 = .ok (.if_icmp .gt 9, 3) := by decide +kernel
theorem dX8_seconds_51 : decode cX8_seconds 51 = .ok (.iinc 3 1, 3) := by decide +kernel
theorem dX8_seconds_54 : decode cX8_seconds 54 = .ok (.goto (-18), 3) := by decide +kernel
theorem dX8_seconds_57 : decode cX8_seconds 57 = .ok (.iconst 3, 1) := by decide +kernel
theorem dX8_seconds_58 : decode cX8_seconds 58 = .ok (.iload_n 3, 1) := by decide +kernel
theorem dX8_seconds_59 : decode cX8_seconds 59 = .ok (.imul, 1) := by decide +kernel
theorem dX8_seconds_60 : decode cX8_seconds 60 = .ok (.ireturn, 1) := by decide +kernel
theorem dX8_clouds_0 : decode cX8_clouds 0 = .ok (.aload_n 0, 1) := by decide +kernel
theorem dX8_clouds_1 : decode cX8_clouds 1 = .ok (.iload_n 1, 1) := by decide +kernel
theorem dX8_clouds_2 : decode cX8_clouds 2 = .ok (.invokevirtual 125, 3) := by decide +kernel
theorem dX8_clouds_5 : decode cX8_clouds 5 = .ok (.ifCond .eq 13, 3) := by decide +kernel
theorem dX8_clouds_8 : decode cX8_clouds 8 = .ok (.iload_n 2, 1) := by decide +kernel
theorem dX8_clouds_9 : decode cX8_clouds 9 = .ok (.iconst 0, 1) := by decide +kernel
theorem dX8_clouds_10 : decode cX8_clouds 10 = .ok (.bipush 100, 2) := by decide +kernel
theorem dX8_clouds_12 : decode cX8_clouds 12 = .ok (.invokestatic 114, 3) := by decide +kernel
theorem dX8_clouds_15 : decode cX8_clouds 15 = .ok (.ifCond .ne 5, 3) := by decide +kernel
theorem dX8_clouds_18 : decode cX8_clouds 18 = .ok (.iconst 0, 1) := by decide +kernel
theorem dX8_clouds_19 : decode cX8_clouds 19 = .ok (.ireturn, 1) := by decide +kernel
theorem dX8_clouds_20 : decode cX8_clouds 20 = .ok (.aload_n 0, 1) := by decide +kernel
theorem dX8_clouds_21 : decode cX8_clouds 21 = .ok (.getfield 13, 3) := by decide +kernel
theorem dX8_clouds_24 : decode cX8_clouds 24 = .ok (.iload_n 1, 1) := by decide +kernel
theorem dX8_clouds_25 : decode cX8_clouds 25 = .ok (.iload_n 2, 1) := by decide +kernel
theorem dX8_clouds_26 : decode cX8_clouds 26 = .ok (.iastore, 1) := by decide +kernel
theorem dX8_clouds_27 : decode cX8_clouds 27 = .ok (.iconst 1, 1) := by decide +kernel
theorem dX8_clouds_28 : decode cX8_clouds 28 = .ok (.ireturn, 1) := by decide +kernel
theorem dX8_reckons_0 : decode cX8_reckons 0 = .ok (.iconst 0, 1) := by decide +kernel
theorem dX8_reckons_1 : decode cX8_reckons 1 = .ok (.istore_n 1, 1) := by decide +kernel
theorem dX8_reckons_2 : decode cX8_reckons 2 = .ok (.iload_n 1, 1) := by decide +kernel
theorem dX8_reckons_3 : decode cX8_reckons 3 = .ok (.bipush 100, 2) := by decide +kernel
theorem dX8_reckons_5 : decode cX8_reckons 5 = .ok (.if_icmp .ge 29, 3) := by decide +kernel
theorem dX8_reckons_8 : decode cX8_reckons 8 = .ok (.aload_n 0, 1) := by decide +kernel
theorem dX8_reckons_9 : decode cX8_reckons 9 = .ok (.getfield 38, 3) := by decide +kernel
theorem dX8_reckons_12 : decode cX8_reckons 12 = .ok (.iload_n 1, 1) := by decide +kernel
theorem dX8_reckons_13 : decode cX8_reckons 13 = .ok (.iload_n 1, 1) := by decide +kernel
theorem dX8_reckons_14 : decode cX8_reckons 14 = .ok (.bipush 11, 2) := by decide +kernel
theorem dX8_reckons_16 : decode cX8_reckons 16 = .ok (.irem, 1) := by decide +kernel
theorem dX8_reckons_17 : decode cX8_reckons 17 = .ok (.ifCond .ne 7, 3) := by decide +kernel
theorem dX8_reckons_20 : decode cX8_reckons 20 = .ok (.iconst 0, 1) := by decide +kernel
theorem dX8_reckons_21 : decode cX8_reckons 21 = .ok (.goto 6, 3) := by decide +kernel
theorem dX8_reckons_24 : decode cX8_reckons 24 = .ok (.sipush 10000, 3) := by decide +kernel
theorem dX8_reckons_27 : decode cX8_reckons 27 = .ok (.iastore, 1) := by decide +kernel
theorem dX8_reckons_28 : decode cX8_reckons 28 = .ok (.iinc 1 1, 3) := by decide +kernel
theorem dX8_reckons_31 : decode cX8_reckons 31 = .ok (.goto (-29), 3) := by decide +kernel
theorem dX8_reckons_34 : decode cX8_reckons 34 = .ok (.iconst 1, 1) := by decide +kernel
theorem dX8_reckons_35 : decode cX8_reckons 35 = .ok (.istore_n 1, 1) := by decide +kernel
theorem dX8_reckons_36 : decode cX8_reckons 36 = .ok (.iload_n 1, 1) := by decide +kernel
theorem dX8_reckons_37 : decode cX8_reckons 37 = .ok (.ifCond .eq 107, 3) := by decide +kernel
theorem dX8_reckons_40 : decode cX8_reckons 40 = .ok (.iconst 0, 1) := by decide +kernel
theorem dX8_reckons_41 : decode cX8_reckons 41 = .ok (.istore_n 1, 1) := by decide +kernel
theorem dX8_reckons_42 : decode cX8_reckons 42 = .ok (.iconst 0, 1) := by decide +kernel
theorem dX8_reckons_43 : decode cX8_reckons 43 = .ok (.istore_n 2, 1) := by decide +kernel
theorem dX8_reckons_44 : decode cX8_reckons 44 = .ok (.iload_n 2, 1) := by decide +kernel
theorem dX8_reckons_45 : decode cX8_reckons 45 = .ok (.aload_n 0, 1) := by decide +kernel
theorem dX8_reckons_46 : decode cX8_reckons 46 = .ok (.getfield 118, 3) := by decide +kernel
theorem dX8_reckons_49 : decode cX8_reckons 49 = .ok (.if_icmp .ge 92, 3) := by decide +kernel
theorem dX8_reckons_52 : decode cX8_reckons 52 = .ok (.iconst 0, 1) := by decide +kernel
theorem dX8_reckons_53 : decode cX8_reckons 53 = .ok (.istore_n 3, 1) := by decide +kernel
theorem dX8_reckons_54 : decode cX8_reckons 54 = .ok (.iload_n 3, 1) := by decide +kernel
theorem dX8_reckons_55 : decode cX8_reckons 55 = .ok (.bipush 10, 2) := by decide +kernel
theorem dX8_reckons_57 : decode cX8_reckons 57 = .ok (.if_icmp .ge 78, 3) := by decide +kernel
theorem dX8_reckons_60 : decode cX8_reckons 60 = .ok (.aload_n 0, 1) := by decide +kernel
theorem dX8_reckons_61 : decode cX8_reckons 61 = .ok (.getfield 29, 3) := by decide +kernel
theorem dX8_reckons_64 : decode cX8_reckons 64 = .ok (.iload_n 2, 1) := by decide +kernel
theorem dX8_reckons_65 : decode cX8_reckons 65 = .ok (.iaload, 1) := by decide +kernel
theorem dX8_reckons_66 : decode cX8_reckons 66 = .ok (.aload_n 0, 1) := by decide +kernel
theorem dX8_reckons_67 : decode cX8_reckons 67 = .ok (.getfield 38, 3) := by decide +kernel
theorem dX8_reckons_70 : decode cX8_reckons 70 = .ok (.bipush 10, 2) := by decide +kernel
theorem dX8_reckons_72 : decode cX8_reckons 72 = .ok (.aload_n 0, 1) := by decide +kernel
theorem dX8_reckons_73 : decode cX8_reckons 73 = .ok (.getfield 23, 3) := by decide +kernel
theorem dX8_reckons_76 : decode cX8_reckons 76 = .ok (.iload_n 2, 1) := by decide +kernel
theorem dX8_reckons_77 : decode cX8_reckons 77 = .ok (.iaload, 1) := by decide +kernel
theorem dX8_reckons_78 : decode cX8_reckons 78 = .ok (.imul, 1) := by decide +kernel
theorem dX8_reckons_79 : decode cX8_reckons 79 = .ok (.iload_n 3, 1) := by decide +kernel
theorem dX8_reckons_80 : decode cX8_reckons 80 = .ok (.iadd, 1) := by decide +kernel
theorem dX8_reckons_81 : decode cX8_reckons 81 = .ok (.iaload, 1) := by decide +kernel
theorem dX8_reckons_82 : decode cX8_reckons 82 = .ok (.iadd, 1) := by decide +kernel
theorem dX8_reckons_83 : decode cX8_reckons 83 = .ok (.istore 4, 2) := by decide +kernel
theorem dX8_reckons_85 : decode cX8_reckons 85 = .ok (.iload 4, 2) := by decide +kernel
theorem dX8_reckons_87 : decode cX8_reckons 87 = .ok (.aload_n 0, 1) := by decide +kernel
theorem dX8_reckons_88 : decode cX8_reckons 88 = .ok (.getfield 38, 3) := by decide +kernel
theorem dX8_reckons_91 : decode cX8_reckons 91 = .ok (.bipush 10, 2) := by decide +kernel
theorem dX8_reckons_93 : decode cX8_reckons 93 = .ok (.aload_n 0, 1) := by decide +kernel
theorem dX8_reckons_94 : decode cX8_reckons 94 = .ok (.getfield 20, 3) := by decide +kernel
theorem dX8_reckons_97 : decode cX8_reckons 97 = .ok (.iload_n 2, 1) := by decide +kernel
theorem dX8_reckons_98 : decode cX8_reckons 98 = .ok (.iaload, 1) := by decide +kernel
theorem dX8_reckons_99 : decode cX8_reckons 99 = .ok (.imul, 1) := by decide +kernel
theorem dX8_reckons_100 : decode cX8_reckons 100 = .ok (.iload_n 3, 1) := by decide +kernel
theorem dX8_reckons_101 : decode cX8_reckons 101 = .ok (.iadd, 1) := by decide +kernel
theorem dX8_reckons_102 : decode cX8_reckons 102 = .ok (.iaload, 1) := by decide +kernel
theorem dX8_reckons_103 : decode cX8_reckons 103 = .ok (.if_icmp .lt 6, 3) := by decide +kernel
theorem dX8_reckons_106 : decode cX8_reckons 106 = .ok (.goto 23, 3) := by decide +kernel
theorem dX8_reckons_109 : decode cX8_reckons 109 = .ok (.aload_n 0, 1) := by decide +kernel
theorem dX8_reckons_110 : decode cX8_reckons 110 = .ok (.getfield 38, 3) := by decide +kernel
theorem dX8_reckons_113 : decode cX8_reckons 113 = .ok (.bipush 10, 2) := by decide +kernel
theorem dX8_reckons_115 : decode cX8_reckons 115 = .ok (.aload_n 0, 1) := by decide +kernel
theorem dX8_reckons_116 : decode cX8_reckons 116 = .ok (.getfield 20, 3) := by decide +kernel
theorem dX8_reckons_119 : decode cX8_reckons 119 = .ok (.iload_n 2, 1) := by decide +kernel
theorem dX8_reckons_120 : decode cX8_reckons 120 = .ok (.iaload, 1) := by decide +kernel
theorem dX8_reckons_121 : decode cX8_reckons 121 = .ok (.imul, 1) := by decide +kernel
theorem dX8_reckons_122 : decode cX8_reckons 122 = .ok (.iload_n 3, 1) := by decide +kernel
theorem dX8_reckons_123 : decode cX8_reckons 123 = .ok (.iadd, 1) := by decide +kernel
theorem dX8_reckons_124 : decode cX8_reckons 124 = .ok (.iload 4, 2) := by decide +kernel
theorem dX8_reckons_126 : decode cX8_reckons 126 = .ok (.iastore, 1) := by decide +kernel
theorem dX8_reckons_127 : decode cX8_reckons 127 = .ok (.iconst 1, 1) := by decide +kernel
theorem dX8_reckons_128 : decode cX8_reckons 128 = .ok (.istore_n 1, 1) := by decide +kernel
theorem dX8_reckons_129 : decode cX8_reckons 129 = .ok (.iinc 3 1, 3) := by decide +kernel
theorem dX8_reckons_132 : decode cX8_reckons 132 = .ok (.goto (-78), 3) := by decide +kernel
theorem dX8_reckons_135 : decode cX8_reckons 135 = .ok (.iinc 2 1, 3) := by decide +kernel
theorem dX8_reckons_138 : decode cX8_reckons 138 = .ok (.goto (-94), 3) := by decide +kernel
theorem dX8_reckons_141 : decode cX8_reckons 141 = .ok (.goto (-105), 3) := by decide +kernel
theorem dX8_reckons_144 : decode cX8_reckons 144 = .ok (.return_, 1) := by decide +kernel
theorem dX8_road_0 : decode cX8_road 0 = .ok (.aload_n 0, 1) := by decide +kernel
theorem dX8_road_1 : decode cX8_road 1 = .ok (.iload_n 1, 1) := by decide +kernel
theorem dX8_road_2 : decode cX8_road 2 = .ok (.invokevirtual 125, 3) := by decide +kernel
theorem dX8_road_5 : decode cX8_road 5 = .ok (.ifCond .eq 54, 3) := by decide +kernel
theorem dX8_road_8 : decode cX8_road 8 = .ok (.aload_n 0, 1) := by decide +kernel
theorem dX8_road_9 : decode cX8_road 9 = .ok (.iload_n 2, 1) := by decide +kernel
theorem dX8_road_10 : decode cX8_road 10 = .ok (.invokevirtual 125, 3) := by decide +kernel
theorem dX8_road_13 : decode cX8_road 13 = .ok (.ifCond .eq 46, 3) := by decide +kernel
theorem dX8_road_16 : decode cX8_road 16 = .ok (.iload_n 1, 1) := by decide +kernel
theorem dX8_road_17 : decode cX8_road 17 = .ok (.iload_n 2, 1) := by decide +kernel
theorem dX8_road_18 : decode cX8_road 18 = .ok (.if_icmp .eq 41, 3) := by decide +kernel
theorem dX8_road_21 : decode cX8_road 21 = .ok (.iload_n 3, 1) := by decide +kernel
theorem dX8_road_22 : decode cX8_road 22 = .ok (.iconst 1, 1) := by decide +kernel
theorem dX8_road_23 : decode cX8_road 23 = .ok (.sipush 5000, 3) := by decide +kernel
theorem dX8_road_26 : decode cX8_road 26 = .ok (.invokestatic 114, 3) := by decide +kernel
theorem dX8_road_29 : decode cX8_road 29 = .ok (.ifCond .eq 30, 3) := by decide +kernel
theorem dX8_road_32 : decode cX8_road 32 = .ok (.iload 4, 2) := by decide +kernel
theorem dX8_road_34 : decode cX8_road 34 = .ok (.iconst 1, 1) := by decide +kernel
theorem dX8_road_35 : decode cX8_road 35 = .ok (.bipush 9, 2) := by decide +kernel
theorem dX8_road_37 : decode cX8_road 37 = .ok (.invokestatic 114, 3) := by decide +kernel
theorem dX8_road_40 : decode cX8_road 40 = .ok (.ifCond .eq 19, 3) := by decide +kernel
theorem dX8_road_43 : decode cX8_road 43 = .ok (.aload_n 0, 1) := by decide +kernel
theorem dX8_road_44 : decode cX8_road 44 = .ok (.getfield 118, 3) := by decide +kernel
theorem dX8_road_47 : decode cX8_road 47 = .ok (.bipush 16, 2) := by decide +kernel
theorem dX8_road_49 : decode cX8_road 49 = .ok (.if_icmp .eq 10, 3) := by decide +kernel
theorem dX8_road_52 : decode cX8_road 52 = .ok (.aload_n 0, 1) := by decide +kernel
theorem dX8_road_53 : decode cX8_road 53 = .ok (.getfield 129, 3) := by decide +kernel
theorem dX8_road_56 : decode cX8_road 56 = .ok (.ifCond .le 5, 3) := by decide +kernel
theorem dX8_road_59 : decode cX8_road 59 = .ok (.iconst (-1), 1) := by decide +kernel
theorem dX8_road_60 : decode cX8_road 60 = .ok (.ireturn, 1) := by decide +kernel
theorem dX8_road_61 : decode cX8_road 61 = .ok (.aload_n 0, 1) := by decide +kernel
theorem dX8_road_62 : decode cX8_road 62 = .ok (.getfield 20, 3) := by decide +kernel
theorem dX8_road_65 : decode cX8_road 65 = .ok (.aload_n 0, 1) := by decide +kernel
theorem dX8_road_66 : decode cX8_road 66 = .ok (.getfield 118, 3) := by decide +kernel
theorem dX8_road_69 : decode cX8_road 69 = .ok (.iload_n 1, 1) := by decide +kernel
theorem dX8_road_70 : decode cX8_road 70 = .ok (.iastore, 1) := by decide +kernel
theorem dX8_road_71 : decode cX8_road 71 = .ok (.aload_n 0, 1) := by decide +kernel
theorem dX8_road_72 : decode cX8_road 72 = .ok (.getfield 23, 3) := by decide +kernel
theorem dX8_road_75 : decode cX8_road 75 = .ok (.aload_n 0, 1) := by decide +kernel
theorem dX8_road_76 : decode cX8_road 76 = .ok (.getfield 118, 3) := by decide +kernel
theorem dX8_road_79 : decode cX8_road 79 = .ok (.iload_n 2, 1) := by decide +kernel
theorem dX8_road_80 : decode cX8_road 80 = .ok (.iastore, 1) := by decide +kernel
theorem dX8_road_81 : decode cX8_road 81 = .ok (.aload_n 0, 1) := by decide +kernel
theorem dX8_road_82 : decode cX8_road 82 = .ok (.getfield 26, 3) := by decide +kernel
theorem dX8_road_85 : decode cX8_road 85 = .ok (.aload_n 0, 1) := by decide +kernel
theorem dX8_road_86 : decode cX8_road 86 = .ok (.getfield 118, 3) := by decide +kernel
theorem dX8_road_89 : decode cX8_road 89 = .ok (.iload_n 3, 1) := by decide +kernel
theorem dX8_road_90 : decode cX8_road 90 = .ok (.iastore, 1) := by decide +kernel
theorem dX8_road_91 : decode cX8_road 91 = .ok (.aload_n 0, 1) := by decide +kernel
theorem dX8_road_92 : decode cX8_road 92 = .ok (.getfield 29, 3) := by decide +kernel
theorem dX8_road_95 : decode cX8_road 95 = .ok (.aload_n 0, 1) := by decide +kernel
theorem dX8_road_96 : decode cX8_road 96 = .ok (.getfield 118, 3) := by decide +kernel
theorem dX8_road_99 : decode cX8_road 99 = .ok (.iload 4, 2) := by decide +kernel
theorem dX8_road_101 : decode cX8_road 101 = .ok (.iastore, 1) := by decide +kernel
theorem dX8_road_102 : decode cX8_road 102 = .ok (.aload_n 0, 1) := by decide +kernel
theorem dX8_road_103 : decode cX8_road 103 = .ok (.dup, 1) := by decide +kernel
theorem dX8_road_104 : decode cX8_road 104 = .ok (.getfield 118, 3) := by decide +kernel
theorem dX8_road_107 : decode cX8_road 107 = .ok (.iconst 1, 1) := by decide +kernel
theorem dX8_road_108 : decode cX8_road 108 = .ok (.iadd, 1) := by decide +kernel
theorem dX8_road_109 : decode cX8_road 109 = .ok (.putfield 118, 3) := by decide +kernel
theorem dX8_road_112 : decode cX8_road 112 = .ok (.aload_n 0, 1) := by decide +kernel
theorem dX8_road_113 : decode cX8_road 113 = .ok (.invokevirtual 108, 3) := by decide +kernel
theorem dX8_road_116 : decode cX8_road 116 = .ok (.aload_n 0, 1) := by decide +kernel
theorem dX8_road_117 : decode cX8_road 117 = .ok (.getfield 118, 3) := by decide +kernel
theorem dX8_road_120 : decode cX8_road 120 = .ok (.iconst 1, 1) := by decide +kernel
theorem dX8_road_121 : decode cX8_road 121 = .ok (.isub, 1) := by decide +kernel
theorem dX8_road_122 : decode cX8_road 122 = .ok (.ireturn, 1) := by decide +kernel
theorem dX8_least_0 : decode cX8_least 0 = .ok (.aload_n 0, 1) := by decide +kernel
theorem dX8_least_1 : decode cX8_least 1 = .ok (.iload_n 1, 1) := by decide +kernel
theorem dX8_least_2 : decode cX8_least 2 = .ok (.invokevirtual 125, 3) := by decide +kernel
theorem dX8_least_5 : decode cX8_least 5 = .ok (.ifCond .eq 11, 3) := by decide +kernel
theorem dX8_least_8 : decode cX8_least 8 = .ok (.aload_n 0, 1) := by decide +kernel
theorem dX8_least_9 : decode cX8_least 9 = .ok (.iload_n 2, 1) := by decide +kernel
theorem dX8_least_10 : decode cX8_least 10 = .ok (.invokevirtual 125, 3) := by decide +kernel
theorem dX8_least_13 : decode cX8_least 13 = .ok (.ifCond .ne 5, 3) := by decide +kernel
theorem dX8_least_16 : decode cX8_least 16 = .ok (.iconst (-1), 1) := by decide +kernel
theorem dX8_least_17 : decode cX8_least 17 = .ok (.ireturn, 1) := by decide +kernel
theorem dX8_least_18 : decode cX8_least 18 = .ok (.aload_n 0, 1) := by decide +kernel
theorem dX8_least_19 : decode cX8_least 19 = .ok (.getfield 38, 3) := by decide +kernel
theorem dX8_least_22 : decode cX8_least 22 = .ok (.bipush 10, 2) := by decide +kernel
theorem dX8_least_24 : decode cX8_least 24 = .ok (.iload_n 1, 1) := by decide +kernel
theorem dX8_least_25 : decode cX8_least 25 = .ok (.imul, 1) := by decide +kernel
theorem dX8_least_26 : decode cX8_least 26 = .ok (.iload_n 2, 1) := by decide +kernel
theorem dX8_least_27 : decode cX8_least 27 = .ok (.iadd, 1) := by decide +kernel
theorem dX8_least_28 : decode cX8_least 28 = .ok (.iaload, 1) := by decide +kernel
theorem dX8_least_29 : decode cX8_least 29 = .ok (.istore_n 3, 1) := by decide +kernel
theorem dX8_least_30 : decode cX8_least 30 = .ok (.iload_n 3, 1) := by decide +kernel
theorem dX8_least_31 : decode cX8_least 31 = .ok (.sipush 10000, 3) := by decide +kernel
theorem dX8_least_34 : decode cX8_least 34 = .ok (.if_icmp .lt 7, 3) := by decide +kernel
theorem dX8_least_37 : decode cX8_least 37 = .ok (.iconst (-1), 1) := by decide +kernel
theorem dX8_least_38 : decode cX8_least 38 = .ok (.goto 4, 3) := by decide +kernel
theorem dX8_least_41 : decode cX8_least 41 = .ok (.iload_n 3, 1) := by decide +kernel
theorem dX8_least_42 : decode cX8_least 42 = .ok (.ireturn, 1) := by decide +kernel
theorem dX8_way_0 : decode cX8_way 0 = .ok (.iconst 0, 1) := by decide +kernel
theorem dX8_way_1 : decode cX8_way 1 = .ok (.istore_n 3, 1) := by decide +kernel
theorem dX8_way_2 : decode cX8_way 2 = .ok (.iload_n 3, 1) := by decide +kernel
theorem dX8_way_3 : decode cX8_way 3 = .ok (.aload_n 0, 1) := by decide +kernel
theorem dX8_way_4 : decode cX8_way 4 = .ok (.getfield 118, 3) := by decide +kernel
theorem dX8_way_7 : decode cX8_way 7 = .ok (.if_icmp .ge 58, 3) := by decide +kernel
theorem dX8_way_10 : decode cX8_way 10 = .ok (.aload_n 0, 1) := by decide +kernel
theorem dX8_way_11 : decode cX8_way 11 = .ok (.getfield 20, 3) := by decide +kernel
theorem dX8_way_14 : decode cX8_way 14 = .ok (.iload_n 3, 1) := by decide +kernel
theorem dX8_way_15 : decode cX8_way 15 = .ok (.iaload, 1) := by decide +kernel
theorem dX8_way_16 : decode cX8_way 16 = .ok (.iload_n 1, 1) := by decide +kernel
theorem dX8_way_17 : decode cX8_way 17 = .ok (.if_icmp .ne 42, 3) := by decide +kernel
theorem dX8_way_20 : decode cX8_way 20 = .ok (.aload_n 0, 1) := by decide +kernel
theorem dX8_way_21 : decode cX8_way 21 = .ok (.getfield 29, 3) := by decide +kernel
theorem dX8_way_24 : decode cX8_way 24 = .ok (.iload_n 3, 1) := by decide +kernel
theorem dX8_way_25 : decode cX8_way 25 = .ok (.iaload, 1) := by decide +kernel
theorem dX8_way_26 : decode cX8_way 26 = .ok (.aload_n 0, 1) := by decide +kernel
theorem dX8_way_27 : decode cX8_way 27 = .ok (.getfield 38, 3) := by decide +kernel
theorem dX8_way_30 : decode cX8_way 30 = .ok (.bipush 10, 2) := by decide +kernel
theorem dX8_way_32 : decode cX8_way 32 = .ok (.aload_n 0, 1) := by decide +kernel
theorem dX8_way_33 : decode cX8_way 33 = .ok (.getfield 23, 3) := by decide +kernel
theorem dX8_way_36 : decode cX8_way 36 = .ok (.iload_n 3, 1) := by decide +kernel
theorem dX8_way_37 : decode cX8_way 37 = .ok (.iaload, 1) := by decide +kernel
theorem dX8_way_38 : decode cX8_way 38 = .ok (.imul, 1) := by decide +kernel
theorem dX8_way_39 : decode cX8_way 39 = .ok (.iload_n 2, 1) := by decide +kernel
theorem dX8_way_40 : decode cX8_way 40 = .ok (.iadd, 1) := by decide +kernel
theorem dX8_way_41 : decode cX8_way 41 = .ok (.iaload, 1) := by decide +kernel
theorem dX8_way_42 : decode cX8_way 42 = .ok (.iadd, 1) := by decide +kernel
theorem dX8_way_43 : decode cX8_way 43 = .ok (.aload_n 0, 1) := by decide +kernel
theorem dX8_way_44 : decode cX8_way 44 = .ok (.getfield 38, 3) := by decide +kernel
theorem dX8_way_47 : decode cX8_way 47 = .ok (.bipush 10, 2) := by decide +kernel
theorem dX8_way_49 : decode cX8_way 49 = .ok (.iload_n 1, 1) := by decide +kernel
theorem dX8_way_50 : decode cX8_way 50 = .ok (.imul, 1) := by decide +kernel
theorem dX8_way_51 : decode cX8_way 51 = .ok (.iload_n 2, 1) := by decide +kernel
theorem dX8_way_52 : decode cX8_way 52 = .ok (.iadd, 1) := by decide +kernel
theorem dX8_way_53 : decode cX8_way 53 = .ok (.iaload, 1) := by decide +kernel
theorem dX8_way_54 : decode cX8_way 54 = .ok (.if_icmp .ne 5, 3) := by decide +kernel
theorem dX8_way_57 : decode cX8_way 57 = .ok (.iload_n 3, 1) := by decide +kernel
theorem dX8_way_58 : decode cX8_way 58 = .ok (.ireturn, 1) := by decide +kernel
theorem dX8_way_59 : decode cX8_way 59 = .ok (.iinc 3 1, 3) := by decide +kernel
theorem dX8_way_62 : decode cX8_way 62 = .ok (.goto (-60), 3) := by decide +kernel
theorem dX8_way_65 : decode cX8_way 65 = .ok (.iconst (-1), 1) := by decide +kernel
theorem dX8_way_66 : decode cX8_way 66 = .ok (.ireturn, 1) := by decide +kernel
theorem dX8_crowd_0 : decode cX8_crowd 0 = .ok (.aload_n 0, 1) := by decide +kernel
theorem dX8_crowd_1 : decode cX8_crowd 1 = .ok (.iload_n 1, 1) := by decide +kernel
theorem dX8_crowd_2 : decode cX8_crowd 2 = .ok (.invokevirtual 125, 3) := by decide +kernel
theorem dX8_crowd_5 : decode cX8_crowd 5 = .ok (.ifCond .eq 53, 3) := by decide +kernel
theorem dX8_crowd_8 : decode cX8_crowd 8 = .ok (.aload_n 0, 1) := by decide +kernel
theorem dX8_crowd_9 : decode cX8_crowd 9 = .ok (.iload_n 3, 1) := by decide +kernel
theorem dX8_crowd_10 : decode cX8_crowd 10 = .ok (.invokevirtual 125, 3) := by decide +kernel
theorem dX8_crowd_13 : decode cX8_crowd 13 = .ok (.ifCond .eq 45, 3) := by decide +kernel
theorem dX8_crowd_16 : decode cX8_crowd 16 = .ok (.iload_n 1, 1) := by decide +kernel
theorem dX8_crowd_17 : decode cX8_crowd 17 = .ok (.iload_n 3, 1) := by decide +kernel
theorem dX8_crowd_18 : decode cX8_crowd 18 = .ok (.if_icmp .eq 40, 3) := by decide +kernel
theorem dX8_crowd_21 : decode cX8_crowd 21 = .ok (.aload_n 0, 1) := by decide +kernel
theorem dX8_crowd_22 : decode cX8_crowd 22 = .ok (.iload_n 1, 1) := by decide +kernel
theorem dX8_crowd_23 : decode cX8_crowd 23 = .ok (.iload_n 3, 1) := by decide +kernel
theorem dX8_crowd_24 : decode cX8_crowd 24 = .ok (.invokevirtual 132, 3) := by decide +kernel
theorem dX8_crowd_27 : decode cX8_crowd 27 = .ok (.iconst (-1), 1) := by decide +kernel
theorem dX8_crowd_28 : decode cX8_crowd 28 = .ok (.if_icmp .eq 30, 3) := by decide +kernel
theorem dX8_crowd_31 : decode cX8_crowd 31 = .ok (.iload_n 2, 1) := by decide +kernel
theorem dX8_crowd_32 : decode cX8_crowd 32 = .ok (.iconst 1, 1) := by decide +kernel
theorem dX8_crowd_33 : decode cX8_crowd 33 = .ok (.sipush 20000, 3) := by decide +kernel
theorem dX8_crowd_36 : decode cX8_crowd 36 = .ok (.invokestatic 114, 3) := by decide +kernel
theorem dX8_crowd_39 : decode cX8_crowd 39 = .ok (.ifCond .eq 19, 3) := by decide +kernel
theorem dX8_crowd_42 : decode cX8_crowd 42 = .ok (.aload_n 0, 1) := by decide +kernel
theorem dX8_crowd_43 : decode cX8_crowd 43 = .ok (.getfield 121, 3) := by decide +kernel
theorem dX8_crowd_46 : decode cX8_crowd 46 = .ok (.bipush 8, 2) := by decide +kernel
theorem dX8_crowd_48 : decode cX8_crowd 48 = .ok (.if_icmp .eq 10, 3) := by decide +kernel
theorem dX8_crowd_51 : decode cX8_crowd 51 = .ok (.aload_n 0, 1) := by decide +kernel
theorem dX8_crowd_52 : decode cX8_crowd 52 = .ok (.getfield 129, 3) := by decide +kernel
theorem dX8_crowd_55 : decode cX8_crowd 55 = .ok (.ifCond .le 5, 3) := by decide +kernel
theorem dX8_crowd_58 : decode cX8_crowd 58 = .ok (.iconst (-1), 1) := by decide +kernel
theorem dX8_crowd_59 : decode cX8_crowd 59 = .ok (.ireturn, 1) := by decide +kernel
theorem dX8_crowd_60 : decode cX8_crowd 60 = .ok (.aload_n 0, 1) := by decide +kernel
theorem dX8_crowd_61 : decode cX8_crowd 61 = .ok (.getfield 41, 3) := by decide +kernel
theorem dX8_crowd_64 : decode cX8_crowd 64 = .ok (.aload_n 0, 1) := by decide +kernel
theorem dX8_crowd_65 : decode cX8_crowd 65 = .ok (.getfield 121, 3) := by decide +kernel
theorem dX8_crowd_68 : decode cX8_crowd 68 = .ok (.iload_n 1, 1) := by decide +kernel
theorem dX8_crowd_69 : decode cX8_crowd 69 = .ok (.iastore, 1) := by decide +kernel
theorem dX8_crowd_70 : decode cX8_crowd 70 = .ok (.aload_n 0, 1) := by decide +kernel
theorem dX8_crowd_71 : decode cX8_crowd 71 = .ok (.getfield 44, 3) := by decide +kernel
theorem dX8_crowd_74 : decode cX8_crowd 74 = .ok (.aload_n 0, 1) := by decide +kernel
theorem dX8_crowd_75 : decode cX8_crowd 75 = .ok (.getfield 121, 3) := by decide +kernel
theorem dX8_crowd_78 : decode cX8_crowd 78 = .ok (.iload_n 2, 1) := by decide +kernel
theorem dX8_crowd_79 : decode cX8_crowd 79 = .ok (.iastore, 1) := by decide +kernel
theorem dX8_crowd_80 : decode cX8_crowd 80 = .ok (.aload_n 0, 1) := by decide +kernel
theorem dX8_crowd_81 : decode cX8_crowd 81 = .ok (.getfield 47, 3) := by decide +kernel
theorem dX8_crowd_84 : decode cX8_crowd 84 = .ok (.aload_n 0, 1) := by decide +kernel
theorem dX8_crowd_85 : decode cX8_crowd 85 = .ok (.getfield 121, 3) := by decide +kernel
theorem dX8_crowd_88 : decode cX8_crowd 88 = .ok (.iload_n 3, 1) := by decide +kernel
theorem dX8_crowd_89 : decode cX8_crowd 89 = .ok (.iastore, 1) := by decide +kernel
theorem dX8_crowd_90 : decode cX8_crowd 90 = .ok (.aload_n 0, 1) := by decide +kernel
theorem dX8_crowd_91 : decode cX8_crowd 91 = .ok (.getfield 87, 3) := by decide +kernel
theorem dX8_crowd_94 : decode cX8_crowd 94 = .ok (.aload_n 0, 1) := by decide +kernel
theorem dX8_crowd_95 : decode cX8_crowd 95 = .ok (.getfield 121, 3) := by decide +kernel
theorem dX8_crowd_98 : decode cX8_crowd 98 = .ok (.iconst (-1), 1) := by decide +kernel
theorem dX8_crowd_99 : decode cX8_crowd 99 = .ok (.iastore, 1) := by decide +kernel
theorem dX8_crowd_100 : decode cX8_crowd 100 = .ok (.aload_n 0, 1) := by decide +kernel
theorem dX8_crowd_101 : decode cX8_crowd 101 = .ok (.dup, 1) := by decide +kernel
theorem dX8_crowd_102 : decode cX8_crowd 102 = .ok (.getfield 121, 3) := by decide +kernel
theorem dX8_crowd_105 : decode cX8_crowd 105 = .ok (.iconst 1, 1) := by decide +kernel
theorem dX8_crowd_106 : decode cX8_crowd 106 = .ok (.iadd, 1) := by decide +kernel
theorem dX8_crowd_107 : decode cX8_crowd 107 = .ok (.putfield 121, 3) := by decide +kernel
theorem dX8_crowd_110 : decode cX8_crowd 110 = .ok (.aload_n 0, 1) := by decide +kernel
theorem dX8_crowd_111 : decode cX8_crowd 111 = .ok (.getfield 121, 3) := by decide +kernel
theorem dX8_crowd_114 : decode cX8_crowd 114 = .ok (.iconst 1, 1) := by decide +kernel
theorem dX8_crowd_115 : decode cX8_crowd 115 = .ok (.isub, 1) := by decide +kernel
theorem dX8_crowd_116 : decode cX8_crowd 116 = .ok (.ireturn, 1) := by decide +kernel
theorem dX8_worth_0 : decode cX8_worth 0 = .ok (.aload_n 0, 1) := by decide +kernel
theorem dX8_worth_1 : decode cX8_worth 1 = .ok (.iload_n 1, 1) := by decide +kernel
theorem dX8_worth_2 : decode cX8_worth 2 = .ok (.invokevirtual 135, 3) := by decide +kernel
theorem dX8_worth_5 : decode cX8_worth 5 = .ok (.bipush 100, 2) := by decide +kernel
theorem dX8_worth_7 : decode cX8_worth 7 = .ok (.aload_n 0, 1) := by decide +kernel
theorem dX8_worth_8 : decode cX8_worth 8 = .ok (.getfield 13, 3) := by decide +kernel
theorem dX8_worth_11 : decode cX8_worth 11 = .ok (.iload_n 1, 1) := by decide +kernel
theorem dX8_worth_12 : decode cX8_worth 12 = .ok (.iaload, 1) := by decide +kernel
theorem dX8_worth_13 : decode cX8_worth 13 = .ok (.isub, 1) := by decide +kernel
theorem dX8_worth_14 : decode cX8_worth 14 = .ok (.imul, 1) := by decide +kernel
theorem dX8_worth_15 : decode cX8_worth 15 = .ok (.ireturn, 1) := by decide +kernel
theorem dX8_dawn_0 : decode cX8_dawn 0 = .ok (.aload_n 0, 1) := by decide +kernel
theorem dX8_dawn_1 : decode cX8_dawn 1 = .ok (.getfield 129, 3) := by decide +kernel
theorem dX8_dawn_4 : decode cX8_dawn 4 = .ok (.ifCond .gt 13, 3) := by decide +kernel
theorem dX8_dawn_7 : decode cX8_dawn 7 = .ok (.iload_n 1, 1) := by decide +kernel
theorem dX8_dawn_8 : decode cX8_dawn 8 = .ok (.iconst 0, 1) := by decide +kernel
theorem dX8_dawn_9 : decode cX8_dawn 9 = .ok (.bipush 20, 2) := by decide +kernel
theorem dX8_dawn_11 : decode cX8_dawn 11 = .ok (.invokestatic 114, 3) := by decide +kernel
theorem dX8_dawn_14 : decode cX8_dawn 14 = .ok (.ifCond .ne 5, 3) := by decide +kernel
theorem dX8_dawn_17 : decode cX8_dawn 17 = .ok (.iconst (-1), 1) := by decide +kernel
theorem dX8_dawn_18 : decode cX8_dawn 18 = .ok (.ireturn, 1) := by decide +kernel
theorem dX8_dawn_19 : decode cX8_dawn 19 = .ok (.iconst 0, 1) := by decide +kernel
theorem dX8_dawn_20 : decode cX8_dawn 20 = .ok (.istore_n 2, 1) := by decide +kernel
theorem dX8_dawn_21 : decode cX8_dawn 21 = .ok (.iconst 0, 1) := by decide +kernel
theorem dX8_dawn_22 : decode cX8_dawn 22 = .ok (.istore_n 3, 1) := by decide +kernel
theorem dX8_dawn_23 : decode cX8_dawn 23 = .ok (.iload_n 3, 1) := by decide +kernel
theorem dX8_dawn_24 : decode cX8_dawn 24 = .ok (.aload_n 0, 1) := by decide +kernel
theorem dX8_dawn_25 : decode cX8_dawn 25 = .ok (.getfield 121, 3) := by decide +kernel
theorem dX8_dawn_28 : decode cX8_dawn 28 = .ok (.if_icmp .ge 175, 3) := by decide +kernel
theorem dX8_dawn_31 : decode cX8_dawn 31 = .ok (.aload_n 0, 1) := by decide +kernel
theorem dX8_dawn_32 : decode cX8_dawn 32 = .ok (.getfield 41, 3) := by decide +kernel
theorem dX8_dawn_35 : decode cX8_dawn 35 = .ok (.iload_n 3, 1) := by decide +kernel
theorem dX8_dawn_36 : decode cX8_dawn 36 = .ok (.iaload, 1) := by decide +kernel
theorem dX8_dawn_37 : decode cX8_dawn 37 = .ok (.istore 4, 2) := by decide +kernel
theorem dX8_dawn_39 : decode cX8_dawn 39 = .ok (.iconst 0, 1) := by decide +kernel
theorem dX8_dawn_40 : decode cX8_dawn 40 = .ok (.istore 5, 2) := by decide +kernel
theorem dX8_dawn_42 : decode cX8_dawn 42 = .ok (.iload 5, 2) := by decide +kernel
theorem dX8_dawn_44 : decode cX8_dawn 44 = .ok (.aload_n 0, 1) := by decide +kernel
theorem dX8_dawn_45 : decode cX8_dawn 45 = .ok (.getfield 111, 3) := by decide +kernel
theorem dX8_dawn_48 : decode cX8_dawn 48 = .ok (.if_icmp .ge 116, 3) := by decide +kernel
theorem dX8_dawn_51 : decode cX8_dawn 51 = .ok (.aload_n 0, 1) := by decide +kernel
theorem dX8_dawn_52 : decode cX8_dawn 52 = .ok (.aload_n 0, 1) := by decide +kernel
theorem dX8_dawn_53 : decode cX8_dawn 53 = .ok (.getfield 41, 3) := by decide +kernel
theorem dX8_dawn_56 : decode cX8_dawn 56 = .ok (.iload_n 3, 1) := by decide +kernel
theorem dX8_dawn_57 : decode cX8_dawn 57 = .ok (.iaload, 1) := by decide +kernel
theorem dX8_dawn_58 : decode cX8_dawn 58 = .ok (.iload 5, 2) := by decide +kernel
theorem dX8_dawn_60 : decode cX8_dawn 60 = .ok (.invokevirtual 132, 3) := by decide +kernel
theorem dX8_dawn_63 : decode cX8_dawn 63 = .ok (.istore 6, 2) := by decide +kernel
theorem dX8_dawn_65 : decode cX8_dawn 65 = .ok (.iload 6, 2) := by decide +kernel
theorem dX8_dawn_67 : decode cX8_dawn 67 = .ok (.iconst (-1), 1) := by decide +kernel
theorem dX8_dawn_68 : decode cX8_dawn 68 = .ok (.if_icmp .eq 90, 3) := by decide +kernel
theorem dX8_dawn_71 : decode cX8_dawn 71 = .ok (.iload 6, 2) := by decide +kernel
theorem dX8_dawn_73 : decode cX8_dawn 73 = .ok (.iload_n 1, 1) := by decide +kernel
theorem dX8_dawn_74 : decode cX8_dawn 74 = .ok (.if_icmp .gt 84, 3) := by decide +kernel
theorem dX8_dawn_77 : decode cX8_dawn 77 = .ok (.iload 5, 2) := by decide +kernel
theorem dX8_dawn_79 : decode cX8_dawn 79 = .ok (.aload_n 0, 1) := by decide +kernel
theorem dX8_dawn_80 : decode cX8_dawn 80 = .ok (.getfield 47, 3) := by decide +kernel
theorem dX8_dawn_83 : decode cX8_dawn 83 = .ok (.iload_n 3, 1) := by decide +kernel
theorem dX8_dawn_84 : decode cX8_dawn 84 = .ok (.iaload, 1) := by decide +kernel
theorem dX8_dawn_85 : decode cX8_dawn 85 = .ok (.if_icmp .eq 73, 3) := by decide +kernel
theorem dX8_dawn_88 : decode cX8_dawn 88 = .ok (.aload_n 0, 1) := by decide +kernel
theorem dX8_dawn_89 : decode cX8_dawn 89 = .ok (.iload 5, 2) := by decide +kernel
theorem dX8_dawn_91 : decode cX8_dawn 91 = .ok (.aload_n 0, 1) := by decide +kernel
theorem dX8_dawn_92 : decode cX8_dawn 92 = .ok (.getfield 47, 3) := by decide +kernel
theorem dX8_dawn_95 : decode cX8_dawn 95 = .ok (.iload_n 3, 1) := by decide +kernel
theorem dX8_dawn_96 : decode cX8_dawn 96 = .ok (.iaload, 1) := by decide +kernel
theorem dX8_dawn_97 : decode cX8_dawn 97 = .ok (.invokevirtual 132, 3) := by decide +kernel
theorem dX8_dawn_100 : decode cX8_dawn 100 = .ok (.iconst (-1), 1) := by decide +kernel
theorem dX8_dawn_101 : decode cX8_dawn 101 = .ok (.if_icmp .ne 6, 3) := by decide +kernel
theorem dX8_dawn_104 : decode cX8_dawn 104 = .ok (.goto 54, 3) := by decide +kernel
theorem dX8_dawn_107 : decode cX8_dawn 107 = .ok (.aload_n 0, 1) := by decide +kernel
theorem dX8_dawn_108 : decode cX8_dawn 108 = .ok (.iload 5, 2) := by decide +kernel
theorem dX8_dawn_110 : decode cX8_dawn 110 = .ok (.invokevirtual 139, 3) := by decide +kernel
theorem dX8_dawn_113 : decode cX8_dawn 113 = .ok (.aload_n 0, 1) := by decide +kernel
theorem dX8_dawn_114 : decode cX8_dawn 114 = .ok (.iload 4, 2) := by decide +kernel
theorem dX8_dawn_116 : decode cX8_dawn 116 = .ok (.invokevirtual 139, 3) := by decide +kernel
theorem dX8_dawn_119 : decode cX8_dawn 119 = .ok (.if_icmp .gt 35, 3) := by decide +kernel
theorem dX8_dawn_122 : decode cX8_dawn 122 = .ok (.aload_n 0, 1) := by decide +kernel
theorem dX8_dawn_123 : decode cX8_dawn 123 = .ok (.iload 5, 2) := by decide +kernel
theorem dX8_dawn_125 : decode cX8_dawn 125 = .ok (.invokevirtual 139, 3) := by decide +kernel
theorem dX8_dawn_128 : decode cX8_dawn 128 = .ok (.aload_n 0, 1) := by decide +kernel
theorem dX8_dawn_129 : decode cX8_dawn 129 = .ok (.iload 4, 2) := by decide +kernel
theorem dX8_dawn_131 : decode cX8_dawn 131 = .ok (.invokevirtual 139, 3) := by decide +kernel
theorem dX8_dawn_134 : decode cX8_dawn 134 = .ok (.if_icmp .ne 24, 3) := by decide +kernel
theorem dX8_dawn_137 : decode cX8_dawn 137 = .ok (.iload 6, 2) := by decide +kernel
theorem dX8_dawn_139 : decode cX8_dawn 139 = .ok (.aload_n 0, 1) := by decide +kernel
theorem dX8_dawn_140 : decode cX8_dawn 140 = .ok (.aload_n 0, 1) := by decide +kernel
theorem dX8_dawn_141 : decode cX8_dawn 141 = .ok (.getfield 41, 3) := by decide +kernel
theorem dX8_dawn_144 : decode cX8_dawn 144 = .ok (.iload_n 3, 1) := by decide +kernel
theorem dX8_dawn_145 : decode cX8_dawn 145 = .ok (.iaload, 1) := by decide +kernel
theorem dX8_dawn_146 : decode cX8_dawn 146 = .ok (.iload 4, 2) := by decide +kernel
theorem dX8_dawn_148 : decode cX8_dawn 148 = .ok (.invokevirtual 132, 3) := by decide +kernel
theorem dX8_dawn_151 : decode cX8_dawn 151 = .ok (.if_icmp .ge 7, 3) := by decide +kernel
theorem dX8_dawn_154 : decode cX8_dawn 154 = .ok (.iload 5, 2) := by decide +kernel
theorem dX8_dawn_156 : decode cX8_dawn 156 = .ok (.istore 4, 2) := by decide +kernel
theorem dX8_dawn_158 : decode cX8_dawn 158 = .ok (.iinc 5 1, 3) := by decide +kernel
theorem dX8_dawn_161 : decode cX8_dawn 161 = .ok (.goto (-119), 3) := by decide +kernel
theorem dX8_dawn_164 : decode cX8_dawn 164 = .ok (.aload_n 0, 1) := by decide +kernel
theorem dX8_dawn_165 : decode cX8_dawn 165 = .ok (.iload 4, 2) := by decide +kernel
theorem dX8_dawn_167 : decode cX8_dawn 167 = .ok (.invokevirtual 139, 3) := by decide +kernel
theorem dX8_dawn_170 : decode cX8_dawn 170 = .ok (.aload_n 0, 1) := by decide +kernel
theorem dX8_dawn_171 : decode cX8_dawn 171 = .ok (.aload_n 0, 1) := by decide +kernel
theorem dX8_dawn_172 : decode cX8_dawn 172 = .ok (.getfield 41, 3) := by decide +kernel
theorem dX8_dawn_175 : decode cX8_dawn 175 = .ok (.iload_n 3, 1) := by decide +kernel
theorem dX8_dawn_176 : decode cX8_dawn 176 = .ok (.iaload, 1) := by decide +kernel
theorem dX8_dawn_177 : decode cX8_dawn 177 = .ok (.invokevirtual 139, 3) := by decide +kernel
theorem dX8_dawn_180 : decode cX8_dawn 180 = .ok (.if_icmp .gt 6, 3) := by decide +kernel
theorem dX8_dawn_183 : decode cX8_dawn 183 = .ok (.goto 14, 3) := by decide +kernel
theorem dX8_dawn_186 : decode cX8_dawn 186 = .ok (.aload_n 0, 1) := by decide +kernel
theorem dX8_dawn_187 : decode cX8_dawn 187 = .ok (.getfield 41, 3) := by decide +kernel
theorem dX8_dawn_190 : decode cX8_dawn 190 = .ok (.iload_n 3, 1) := by decide +kernel
theorem dX8_dawn_191 : decode cX8_dawn 191 = .ok (.iload 4, 2) := by decide +kernel
theorem dX8_dawn_193 : decode cX8_dawn 193 = .ok (.iastore, 1) := by decide +kernel
theorem dX8_dawn_194 : decode cX8_dawn 194 = .ok (.iinc 2 1, 3) := by decide +kernel
theorem dX8_dawn_197 : decode cX8_dawn 197 = .ok (.iinc 3 1, 3) := by decide +kernel
theorem dX8_dawn_200 : decode cX8_dawn 200 = .ok (.goto (-177), 3) := by decide +kernel
theorem dX8_dawn_203 : decode cX8_dawn 203 = .ok (.iload_n 2, 1) := by decide +kernel
theorem dX8_dawn_204 : decode cX8_dawn 204 = .ok (.ireturn, 1) := by decide +kernel
theorem dX8_hold_0 : decode cX8_hold 0 = .ok (.aload_n 0, 1) := by decide +kernel
theorem dX8_hold_1 : decode cX8_hold 1 = .ok (.iload_n 1, 1) := by decide +kernel
theorem dX8_hold_2 : decode cX8_hold 2 = .ok (.invokevirtual 142, 3) := by decide +kernel
theorem dX8_hold_5 : decode cX8_hold 5 = .ok (.ifCond .eq 26, 3) := by decide +kernel
theorem dX8_hold_8 : decode cX8_hold 8 = .ok (.aload_n 0, 1) := by decide +kernel
theorem dX8_hold_9 : decode cX8_hold 9 = .ok (.getfield 81, 3) := by decide +kernel
theorem dX8_hold_12 : decode cX8_hold 12 = .ok (.iload_n 1, 1) := by decide +kernel
theorem dX8_hold_13 : decode cX8_hold 13 = .ok (.baload, 1) := by decide +kernel
theorem dX8_hold_14 : decode cX8_hold 14 = .ok (.ifCond .ne 17, 3) := by decide +kernel
theorem dX8_hold_17 : decode cX8_hold 17 = .ok (.iload_n 2, 1) := by decide +kernel
theorem dX8_hold_18 : decode cX8_hold 18 = .ok (.aload_n 0, 1) := by decide +kernel
theorem dX8_hold_19 : decode cX8_hold 19 = .ok (.getfield 129, 3) := by decide +kernel
theorem dX8_hold_22 : decode cX8_hold 22 = .ok (.sipush 199, 3) := by decide +kernel
theorem dX8_hold_25 : decode cX8_hold 25 = .ok (.invokestatic 114, 3) := by decide +kernel
theorem dX8_hold_28 : decode cX8_hold 28 = .ok (.ifCond .ne 5, 3) := by decide +kernel
theorem dX8_hold_31 : decode cX8_hold 31 = .ok (.iconst 0, 1) := by decide +kernel
theorem dX8_hold_32 : decode cX8_hold 32 = .ok (.ireturn, 1) := by decide +kernel
theorem dX8_hold_33 : decode cX8_hold 33 = .ok (.aload_n 0, 1) := by decide +kernel
theorem dX8_hold_34 : decode cX8_hold 34 = .ok (.getfield 50, 3) := by decide +kernel
theorem dX8_hold_37 : decode cX8_hold 37 = .ok (.iload_n 1, 1) := by decide +kernel
theorem dX8_hold_38 : decode cX8_hold 38 = .ok (.iload_n 2, 1) := by decide +kernel
theorem dX8_hold_39 : decode cX8_hold 39 = .ok (.iastore, 1) := by decide +kernel
theorem dX8_hold_40 : decode cX8_hold 40 = .ok (.iconst 1, 1) := by decide +kernel
theorem dX8_hold_41 : decode cX8_hold 41 = .ok (.ireturn, 1) := by decide +kernel
theorem dX8_shut_0 : decode cX8_shut 0 = .ok (.aload_n 0, 1) := by decide +kernel
theorem dX8_shut_1 : decode cX8_shut 1 = .ok (.iload_n 1, 1) := by decide +kernel
theorem dX8_shut_2 : decode cX8_shut 2 = .ok (.invokevirtual 145, 3) := by decide +kernel
theorem dX8_shut_5 : decode cX8_shut 5 = .ok (.ifCond .eq 16, 3) := by decide +kernel
theorem dX8_shut_8 : decode cX8_shut 8 = .ok (.iload_n 2, 1) := by decide +kernel
theorem dX8_shut_9 : decode cX8_shut 9 = .ok (.aload_n 0, 1) := by decide +kernel
theorem dX8_shut_10 : decode cX8_shut 10 = .ok (.getfield 129, 3) := by decide +kernel
theorem dX8_shut_13 : decode cX8_shut 13 = .ok (.if_icmp .lt 8, 3) := by decide +kernel
theorem dX8_shut_16 : decode cX8_shut 16 = .ok (.iload_n 3, 1) := by decide +kernel
theorem dX8_shut_17 : decode cX8_shut 17 = .ok (.iload_n 2, 1) := by decide +kernel
theorem dX8_shut_18 : decode cX8_shut 18 = .ok (.if_icmp .gt 5, 3) := by decide +kernel
theorem dX8_shut_21 : decode cX8_shut 21 = .ok (.iconst 0, 1) := by decide +kernel
theorem dX8_shut_22 : decode cX8_shut 22 = .ok (.ireturn, 1) := by decide +kernel
theorem dX8_shut_23 : decode cX8_shut 23 = .ok (.aload_n 0, 1) := by decide +kernel
theorem dX8_shut_24 : decode cX8_shut 24 = .ok (.getfield 32, 3) := by decide +kernel
theorem dX8_shut_27 : decode cX8_shut 27 = .ok (.iload_n 1, 1) := by decide +kernel
theorem dX8_shut_28 : decode cX8_shut 28 = .ok (.iload_n 2, 1) := by decide +kernel
theorem dX8_shut_29 : decode cX8_shut 29 = .ok (.iastore, 1) := by decide +kernel
theorem dX8_shut_30 : decode cX8_shut 30 = .ok (.aload_n 0, 1) := by decide +kernel
theorem dX8_shut_31 : decode cX8_shut 31 = .ok (.getfield 35, 3) := by decide +kernel
theorem dX8_shut_34 : decode cX8_shut 34 = .ok (.iload_n 1, 1) := by decide +kernel
theorem dX8_shut_35 : decode cX8_shut 35 = .ok (.iload_n 3, 1) := by decide +kernel
theorem dX8_shut_36 : decode cX8_shut 36 = .ok (.iastore, 1) := by decide +kernel
theorem dX8_shut_37 : decode cX8_shut 37 = .ok (.iconst 1, 1) := by decide +kernel
theorem dX8_shut_38 : decode cX8_shut 38 = .ok (.ireturn, 1) := by decide +kernel
theorem dX8_adds_0 : decode cX8_adds 0 = .ok (.aload_n 0, 1) := by decide +kernel
theorem dX8_adds_1 : decode cX8_adds 1 = .ok (.getfield 72, 3) := by decide +kernel
theorem dX8_adds_4 : decode cX8_adds 4 = .ok (.iload_n 2, 1) := by decide +kernel
theorem dX8_adds_5 : decode cX8_adds 5 = .ok (.iconst (-1), 1) := by decide +kernel
theorem dX8_adds_6 : decode cX8_adds 6 = .ok (.iastore, 1) := by decide +kernel
theorem dX8_adds_7 : decode cX8_adds 7 = .ok (.aload_n 0, 1) := by decide +kernel
theorem dX8_adds_8 : decode cX8_adds 8 = .ok (.getfield 75, 3) := by decide +kernel
theorem dX8_adds_11 : decode cX8_adds 11 = .ok (.iload_n 1, 1) := by decide +kernel
theorem dX8_adds_12 : decode cX8_adds 12 = .ok (.iaload, 1) := by decide +kernel
theorem dX8_adds_13 : decode cX8_adds 13 = .ok (.iconst (-1), 1) := by decide +kernel
theorem dX8_adds_14 : decode cX8_adds 14 = .ok (.if_icmp .ne 13, 3) := by decide +kernel
theorem dX8_adds_17 : decode cX8_adds 17 = .ok (.aload_n 0, 1) := by decide +kernel
theorem dX8_adds_18 : decode cX8_adds 18 = .ok (.getfield 75, 3) := by decide +kernel
theorem dX8_adds_21 : decode cX8_adds 21 = .ok (.iload_n 1, 1) := by decide +kernel
theorem dX8_adds_22 : decode cX8_adds 22 = .ok (.iload_n 2, 1) := by decide +kernel
theorem dX8_adds_23 : decode cX8_adds 23 = .ok (.iastore, 1) := by decide +kernel
theorem dX8_adds_24 : decode cX8_adds 24 = .ok (.goto 15, 3) := by decide +kernel
theorem dX8_adds_27 : decode cX8_adds 27 = .ok (.aload_n 0, 1) := by decide +kernel
theorem dX8_adds_28 : decode cX8_adds 28 = .ok (.getfield 72, 3) := by decide +kernel
theorem dX8_adds_31 : decode cX8_adds 31 = .ok (.aload_n 0, 1) := by decide +kernel
theorem dX8_adds_32 : decode cX8_adds 32 = .ok (.getfield 78, 3) := by decide +kernel
theorem dX8_adds_35 : decode cX8_adds 35 = .ok (.iload_n 1, 1) := by decide +kernel
theorem dX8_adds_36 : decode cX8_adds 36 = .ok (.iaload, 1) := by decide +kernel
theorem dX8_adds_37 : decode cX8_adds 37 = .ok (.iload_n 2, 1) := by decide +kernel
theorem dX8_adds_38 : decode cX8_adds 38 = .ok (.iastore, 1) := by decide +kernel
theorem dX8_adds_39 : decode cX8_adds 39 = .ok (.aload_n 0, 1) := by decide +kernel
theorem dX8_adds_40 : decode cX8_adds 40 = .ok (.getfield 78, 3) := by decide +kernel
theorem dX8_adds_43 : decode cX8_adds 43 = .ok (.iload_n 1, 1) := by decide +kernel
theorem dX8_adds_44 : decode cX8_adds 44 = .ok (.iload_n 2, 1) := by decide +kernel
theorem dX8_adds_45 : decode cX8_adds 45 = .ok (.iastore, 1) := by decide +kernel
theorem dX8_adds_46 : decode cX8_adds 46 = .ok (.return_, 1) := by decide +kernel
theorem dX8_takes_0 : decode cX8_takes 0 = .ok (.aload_n 0, 1) := by decide +kernel
theorem dX8_takes_1 : decode cX8_takes 1 = .ok (.getfield 75, 3) := by decide +kernel
theorem dX8_takes_4 : decode cX8_takes 4 = .ok (.iload_n 1, 1) := by decide +kernel
theorem dX8_takes_5 : decode cX8_takes 5 = .ok (.iaload, 1) := by decide +kernel
theorem dX8_takes_6 : decode cX8_takes 6 = .ok (.istore_n 2, 1) := by decide +kernel
theorem dX8_takes_7 : decode cX8_takes 7 = .ok (.aload_n 0, 1) := by decide +kernel
theorem dX8_takes_8 : decode cX8_takes 8 = .ok (.getfield 75, 3) := by decide +kernel
theorem dX8_takes_11 : decode cX8_takes 11 = .ok (.iload_n 1, 1) := by decide +kernel
theorem dX8_takes_12 : decode cX8_takes 12 = .ok (.aload_n 0, 1) := by decide +kernel
theorem dX8_takes_13 : decode cX8_takes 13 = .ok (.getfield 72, 3) := by decide +kernel
theorem dX8_takes_16 : decode cX8_takes 16 = .ok (.iload_n 2, 1) := by decide +kernel
theorem dX8_takes_17 : decode cX8_takes 17 = .ok (.iaload, 1) := by decide +kernel
theorem dX8_takes_18 : decode cX8_takes 18 = .ok (.iastore, 1) := by decide +kernel
theorem dX8_takes_19 : decode cX8_takes 19 = .ok (.iload_n 2, 1) := by decide +kernel
theorem dX8_takes_20 : decode cX8_takes 20 = .ok (.ireturn, 1) := by decide +kernel
theorem dX8_newLump_0 : decode cX8_newLump 0 = .ok (.aload_n 0, 1) := by decide +kernel
theorem dX8_newLump_1 : decode cX8_newLump 1 = .ok (.getfield 63, 3) := by decide +kernel
theorem dX8_newLump_4 : decode cX8_newLump 4 = .ok (.aload_n 0, 1) := by decide +kernel
theorem dX8_newLump_5 : decode cX8_newLump 5 = .ok (.getfield 148, 3) := by decide +kernel
theorem dX8_newLump_8 : decode cX8_newLump 8 = .ok (.iload_n 1, 1) := by decide +kernel
theorem dX8_newLump_9 : decode cX8_newLump 9 = .ok (.iastore, 1) := by decide +kernel
theorem dX8_newLump_10 : decode cX8_newLump 10 = .ok (.aload_n 0, 1) := by decide +kernel
theorem dX8_newLump_11 : decode cX8_newLump 11 = .ok (.getfield 66, 3) := by decide +kernel
theorem dX8_newLump_14 : decode cX8_newLump 14 = .ok (.aload_n 0, 1) := by decide +kernel
theorem dX8_newLump_15 : decode cX8_newLump 15 = .ok (.getfield 148, 3) := by decide +kernel
theorem dX8_newLump_18 : decode cX8_newLump 18 = .ok (.iload_n 2, 1) := by decide +kernel
theorem dX8_newLump_19 : decode cX8_newLump 19 = .ok (.iastore, 1) := by decide +kernel
theorem dX8_newLump_20 : decode cX8_newLump 20 = .ok (.aload_n 0, 1) := by decide +kernel
theorem dX8_newLump_21 : decode cX8_newLump 21 = .ok (.dup, 1) := by decide +kernel
theorem dX8_newLump_22 : decode cX8_newLump 22 = .ok (.getfield 148, 3) := by decide +kernel
theorem dX8_newLump_25 : decode cX8_newLump 25 = .ok (.iconst 1, 1) := by decide +kernel
theorem dX8_newLump_26 : decode cX8_newLump 26 = .ok (.iadd, 1) := by decide +kernel
theorem dX8_newLump_27 : decode cX8_newLump 27 = .ok (.putfield 148, 3) := by decide +kernel
theorem dX8_newLump_30 : decode cX8_newLump 30 = .ok (.aload_n 0, 1) := by decide +kernel
theorem dX8_newLump_31 : decode cX8_newLump 31 = .ok (.getfield 148, 3) := by decide +kernel
theorem dX8_newLump_34 : decode cX8_newLump 34 = .ok (.iconst 1, 1) := by decide +kernel
theorem dX8_newLump_35 : decode cX8_newLump 35 = .ok (.isub, 1) := by decide +kernel
theorem dX8_newLump_36 : decode cX8_newLump 36 = .ok (.ireturn, 1) := by decide +kernel
theorem dX8_arrives_0 : decode cX8_arrives 0 = .ok (.aload_n 0, 1) := by decide +kernel
theorem dX8_arrives_1 : decode cX8_arrives 1 = .ok (.getfield 63, 3) := by decide +kernel
theorem dX8_arrives_4 : decode cX8_arrives 4 = .ok (.iload_n 1, 1) := by decide +kernel
theorem dX8_arrives_5 : decode cX8_arrives 5 = .ok (.iaload, 1) := by decide +kernel
theorem dX8_arrives_6 : decode cX8_arrives 6 = .ok (.istore_n 3, 1) := by decide +kernel
theorem dX8_arrives_7 : decode cX8_arrives 7 = .ok (.iload_n 2, 1) := by decide +kernel
theorem dX8_arrives_8 : decode cX8_arrives 8 = .ok (.aload_n 0, 1) := by decide +kernel
theorem dX8_arrives_9 : decode cX8_arrives 9 = .ok (.getfield 47, 3) := by decide +kernel
theorem dX8_arrives_12 : decode cX8_arrives 12 = .ok (.iload_n 3, 1) := by decide +kernel
theorem dX8_arrives_13 : decode cX8_arrives 13 = .ok (.iaload, 1) := by decide +kernel
theorem dX8_arrives_14 : decode cX8_arrives 14 = .ok (.if_icmp .eq 20, 3) := by decide +kernel
theorem dX8_arrives_17 : decode cX8_arrives 17 = .ok (.aload_n 0, 1) := by decide +kernel
theorem dX8_arrives_18 : decode cX8_arrives 18 = .ok (.aload_n 0, 1) := by decide +kernel
theorem dX8_arrives_19 : decode cX8_arrives 19 = .ok (.iload_n 2, 1) := by decide +kernel
theorem dX8_arrives_20 : decode cX8_arrives 20 = .ok (.aload_n 0, 1) := by decide +kernel
theorem dX8_arrives_21 : decode cX8_arrives 21 = .ok (.getfield 47, 3) := by decide +kernel
theorem dX8_arrives_24 : decode cX8_arrives 24 = .ok (.iload_n 3, 1) := by decide +kernel
theorem dX8_arrives_25 : decode cX8_arrives 25 = .ok (.iaload, 1) := by decide +kernel
theorem dX8_arrives_26 : decode cX8_arrives 26 = .ok (.invokevirtual 151, 3) := by decide +kernel
theorem dX8_arrives_29 : decode cX8_arrives 29 = .ok (.iload_n 1, 1) := by decide +kernel
theorem dX8_arrives_30 : decode cX8_arrives 30 = .ok (.invokevirtual 154, 3) := by decide +kernel
theorem dX8_arrives_33 : decode cX8_arrives 33 = .ok (.return_, 1) := by decide +kernel
theorem dX8_arrives_34 : decode cX8_arrives 34 = .ok (.aload_n 0, 1) := by decide +kernel
theorem dX8_arrives_35 : decode cX8_arrives 35 = .ok (.getfield 84, 3) := by decide +kernel
theorem dX8_arrives_38 : decode cX8_arrives 38 = .ok (.iload_n 3, 1) := by decide +kernel
theorem dX8_arrives_39 : decode cX8_arrives 39 = .ok (.dup2, 1) := by decide +kernel
theorem dX8_arrives_40 : decode cX8_arrives 40 = .ok (.iaload, 1) := by decide +kernel
theorem dX8_arrives_41 : decode cX8_arrives 41 = .ok (.aload_n 0, 1) := by decide +kernel
theorem dX8_arrives_42 : decode cX8_arrives 42 = .ok (.getfield 66, 3) := by decide +kernel
theorem dX8_arrives_45 : decode cX8_arrives 45 = .ok (.iload_n 1, 1) := by decide +kernel
theorem dX8_arrives_46 : decode cX8_arrives 46 = .ok (.iaload, 1) := by decide +kernel
theorem dX8_arrives_47 : decode cX8_arrives 47 = .ok (.iadd, 1) := by decide +kernel
theorem dX8_arrives_48 : decode cX8_arrives 48 = .ok (.iastore, 1) := by decide +kernel
theorem dX8_arrives_49 : decode cX8_arrives 49 = .ok (.aload_n 0, 1) := by decide +kernel
theorem dX8_arrives_50 : decode cX8_arrives 50 = .ok (.getfield 84, 3) := by decide +kernel
theorem dX8_arrives_53 : decode cX8_arrives 53 = .ok (.iload_n 3, 1) := by decide +kernel
theorem dX8_arrives_54 : decode cX8_arrives 54 = .ok (.iaload, 1) := by decide +kernel
theorem dX8_arrives_55 : decode cX8_arrives 55 = .ok (.aload_n 0, 1) := by decide +kernel
theorem dX8_arrives_56 : decode cX8_arrives 56 = .ok (.getfield 44, 3) := by decide +kernel
theorem dX8_arrives_59 : decode cX8_arrives 59 = .ok (.iload_n 3, 1) := by decide +kernel
theorem dX8_arrives_60 : decode cX8_arrives 60 = .ok (.iaload, 1) := by decide +kernel
theorem dX8_arrives_61 : decode cX8_arrives 61 = .ok (.if_icmp .ne 13, 3) := by decide +kernel
theorem dX8_arrives_64 : decode cX8_arrives 64 = .ok (.aload_n 0, 1) := by decide +kernel
theorem dX8_arrives_65 : decode cX8_arrives 65 = .ok (.getfield 87, 3) := by decide +kernel
theorem dX8_arrives_68 : decode cX8_arrives 68 = .ok (.iload_n 3, 1) := by decide +kernel
theorem dX8_arrives_69 : decode cX8_arrives 69 = .ok (.aload_n 0, 1) := by decide +kernel
theorem dX8_arrives_70 : decode cX8_arrives 70 = .ok (.getfield 129, 3) := by decide +kernel
theorem dX8_arrives_73 : decode cX8_arrives 73 = .ok (.iastore, 1) := by decide +kernel
theorem dX8_arrives_74 : decode cX8_arrives 74 = .ok (.return_, 1) := by decide +kernel
theorem dX8_setsOut_0 : decode cX8_setsOut 0 = .ok (.aload_n 0, 1) := by decide +kernel
theorem dX8_setsOut_1 : decode cX8_setsOut 1 = .ok (.getfield 26, 3) := by decide +kernel
theorem dX8_setsOut_4 : decode cX8_setsOut 4 = .ok (.iload_n 1, 1) := by decide +kernel
theorem dX8_setsOut_5 : decode cX8_setsOut 5 = .ok (.iaload, 1) := by decide +kernel
theorem dX8_setsOut_6 : decode cX8_setsOut 6 = .ok (.istore_n 2, 1) := by decide +kernel
theorem dX8_setsOut_7 : decode cX8_setsOut 7 = .ok (.iload_n 2, 1) := by decide +kernel
theorem dX8_setsOut_8 : decode cX8_setsOut 8 = .ok (.ifCond .le 99, 3) := by decide +kernel
theorem dX8_setsOut_11 : decode cX8_setsOut 11 = .ok (.aload_n 0, 1) := by decide +kernel
theorem dX8_setsOut_12 : decode cX8_setsOut 12 = .ok (.getfield 75, 3) := by decide +kernel
theorem dX8_setsOut_15 : decode cX8_setsOut 15 = .ok (.iload_n 1, 1) := by decide +kernel
theorem dX8_setsOut_16 : decode cX8_setsOut 16 = .ok (.iaload, 1) := by decide +kernel
theorem dX8_setsOut_17 : decode cX8_setsOut 17 = .ok (.iconst (-1), 1) := by decide +kernel
theorem dX8_setsOut_18 : decode cX8_setsOut 18 = .ok (.if_icmp .eq 89, 3) := by decide +kernel
theorem dX8_setsOut_21 : decode cX8_setsOut 21 = .ok (.aload_n 0, 1) := by decide +kernel
theorem dX8_setsOut_22 : decode cX8_setsOut 22 = .ok (.getfield 75, 3) := by decide +kernel
theorem dX8_setsOut_25 : decode cX8_setsOut 25 = .ok (.iload_n 1, 1) := by decide +kernel
theorem dX8_setsOut_26 : decode cX8_setsOut 26 = .ok (.iaload, 1) := by decide +kernel
theorem dX8_setsOut_27 : decode cX8_setsOut 27 = .ok (.istore_n 3, 1) := by decide +kernel
theorem dX8_setsOut_28 : decode cX8_setsOut 28 = .ok (.aload_n 0, 1) := by decide +kernel
theorem dX8_setsOut_29 : decode cX8_setsOut 29 = .ok (.getfield 66, 3) := by decide +kernel
theorem dX8_setsOut_32 : decode cX8_setsOut 32 = .ok (.iload_n 3, 1) := by decide +kernel
theorem dX8_setsOut_33 : decode cX8_setsOut 33 = .ok (.iaload, 1) := by decide +kernel
theorem dX8_setsOut_34 : decode cX8_setsOut 34 = .ok (.iload_n 2, 1) := by decide +kernel
theorem dX8_setsOut_35 : decode cX8_setsOut 35 = .ok (.if_icmp .le 28, 3) := by decide +kernel
theorem dX8_setsOut_38 : decode cX8_setsOut 38 = .ok (.aload_n 0, 1) := by decide +kernel
theorem dX8_setsOut_39 : decode cX8_setsOut 39 = .ok (.getfield 66, 3) := by decide +kernel
theorem dX8_setsOut_42 : decode cX8_setsOut 42 = .ok (.iload_n 3, 1) := by decide +kernel
theorem dX8_setsOut_43 : decode cX8_setsOut 43 = .ok (.dup2, 1) := by decide +kernel
theorem dX8_setsOut_44 : decode cX8_setsOut 44 = .ok (.iaload, 1) := by decide +kernel
theorem dX8_setsOut_45 : decode cX8_setsOut 45 = .ok (.iload_n 2, 1) := by decide +kernel
theorem dX8_setsOut_46 : decode cX8_setsOut 46 = .ok (.isub, 1) := by decide +kernel
theorem dX8_setsOut_47 : decode cX8_setsOut 47 = .ok (.iastore, 1) := by decide +kernel
theorem dX8_setsOut_48 : decode cX8_setsOut 48 = .ok (.aload_n 0, 1) := by decide +kernel
theorem dX8_setsOut_49 : decode cX8_setsOut 49 = .ok (.aload_n 0, 1) := by decide +kernel
theorem dX8_setsOut_50 : decode cX8_setsOut 50 = .ok (.getfield 63, 3) := by decide +kernel
theorem dX8_setsOut_53 : decode cX8_setsOut 53 = .ok (.iload_n 3, 1) := by decide +kernel
theorem dX8_setsOut_54 : decode cX8_setsOut 54 = .ok (.iaload, 1) := by decide +kernel
theorem dX8_setsOut_55 : decode cX8_setsOut 55 = .ok (.iload_n 2, 1) := by decide +kernel
theorem dX8_setsOut_56 : decode cX8_setsOut 56 = .ok (.invokevirtual 158, 3) := by decide +kernel
theorem dX8_setsOut_59 : decode cX8_setsOut 59 = .ok (.istore_n 3, 1) := by decide +kernel
theorem dX8_setsOut_60 : decode cX8_setsOut 60 = .ok (.goto 9, 3) := by decide +kernel
theorem dX8_setsOut_63 : decode cX8_setsOut 63 = .ok (.aload_n 0, 1) := by decide +kernel
theorem dX8_setsOut_64 : decode cX8_setsOut 64 = .ok (.iload_n 1, 1) := by decide +kernel
theorem dX8_setsOut_65 : decode cX8_setsOut 65 = .ok (.invokevirtual 161, 3) := by decide +kernel
theorem dX8_setsOut_68 : decode cX8_setsOut 68 = .ok (.pop, 1) := by decide +kernel
theorem dX8_setsOut_69 : decode cX8_setsOut 69 = .ok (.iload_n 2, 1) := by decide +kernel
theorem dX8_setsOut_70 : decode cX8_setsOut 70 = .ok (.aload_n 0, 1) := by decide +kernel
theorem dX8_setsOut_71 : decode cX8_setsOut 71 = .ok (.getfield 66, 3) := by decide +kernel
theorem dX8_setsOut_74 : decode cX8_setsOut 74 = .ok (.iload_n 3, 1) := by decide +kernel
theorem dX8_setsOut_75 : decode cX8_setsOut 75 = .ok (.iaload, 1) := by decide +kernel
theorem dX8_setsOut_76 : decode cX8_setsOut 76 = .ok (.isub, 1) := by decide +kernel
theorem dX8_setsOut_77 : decode cX8_setsOut 77 = .ok (.istore_n 2, 1) := by decide +kernel
theorem dX8_setsOut_78 : decode cX8_setsOut 78 = .ok (.aload_n 0, 1) := by decide +kernel
theorem dX8_setsOut_79 : decode cX8_setsOut 79 = .ok (.getfield 69, 3) := by decide +kernel
theorem dX8_setsOut_82 : decode cX8_setsOut 82 = .ok (.iload_n 3, 1) := by decide +kernel
theorem dX8_setsOut_83 : decode cX8_setsOut 83 = .ok (.aload_n 0, 1) := by decide +kernel
theorem dX8_setsOut_84 : decode cX8_setsOut 84 = .ok (.getfield 129, 3) := by decide +kernel
theorem dX8_setsOut_87 : decode cX8_setsOut 87 = .ok (.aload_n 0, 1) := by decide +kernel
theorem dX8_setsOut_88 : decode cX8_setsOut 88 = .ok (.getfield 29, 3) := by decide +kernel
theorem dX8_setsOut_91 : decode cX8_setsOut 91 = .ok (.iload_n 1, 1) := by decide +kernel
theorem dX8_setsOut_92 : decode cX8_setsOut 92 = .ok (.iaload, 1) := by decide +kernel
theorem dX8_setsOut_93 : decode cX8_setsOut 93 = .ok (.iadd, 1) := by decide +kernel
theorem dX8_setsOut_94 : decode cX8_setsOut 94 = .ok (.iastore, 1) := by decide +kernel
theorem dX8_setsOut_95 : decode cX8_setsOut 95 = .ok (.aload_n 0, 1) := by decide +kernel
theorem dX8_setsOut_96 : decode cX8_setsOut 96 = .ok (.bipush 16, 2) := by decide +kernel
theorem dX8_setsOut_98 : decode cX8_setsOut 98 = .ok (.iload_n 1, 1) := by decide +kernel
theorem dX8_setsOut_99 : decode cX8_setsOut 99 = .ok (.iadd, 1) := by decide +kernel
theorem dX8_setsOut_100 : decode cX8_setsOut 100 = .ok (.iload_n 3, 1) := by decide +kernel
theorem dX8_setsOut_101 : decode cX8_setsOut 101 = .ok (.invokevirtual 154, 3) := by decide +kernel
theorem dX8_setsOut_104 : decode cX8_setsOut 104 = .ok (.goto (-97), 3) := by decide +kernel
theorem dX8_setsOut_107 : decode cX8_setsOut 107 = .ok (.aload_n 0, 1) := by decide +kernel
theorem dX8_setsOut_108 : decode cX8_setsOut 108 = .ok (.getfield 26, 3) := by decide +kernel
theorem dX8_setsOut_111 : decode cX8_setsOut 111 = .ok (.iload_n 1, 1) := by decide +kernel
theorem dX8_setsOut_112 : decode cX8_setsOut 112 = .ok (.iaload, 1) := by decide +kernel
theorem dX8_setsOut_113 : decode cX8_setsOut 113 = .ok (.iload_n 2, 1) := by decide +kernel
theorem dX8_setsOut_114 : decode cX8_setsOut 114 = .ok (.isub, 1) := by decide +kernel
theorem dX8_setsOut_115 : decode cX8_setsOut 115 = .ok (.ireturn, 1) := by decide +kernel
theorem dX8_isShut_0 : decode cX8_isShut 0 = .ok (.aload_n 0, 1) := by decide +kernel
theorem dX8_isShut_1 : decode cX8_isShut 1 = .ok (.getfield 129, 3) := by decide +kernel
theorem dX8_isShut_4 : decode cX8_isShut 4 = .ok (.aload_n 0, 1) := by decide +kernel
theorem dX8_isShut_5 : decode cX8_isShut 5 = .ok (.getfield 32, 3) := by decide +kernel
theorem dX8_isShut_8 : decode cX8_isShut 8 = .ok (.iload_n 1, 1) := by decide +kernel
theorem dX8_isShut_9 : decode cX8_isShut 9 = .ok (.iaload, 1) := by decide +kernel
theorem dX8_isShut_10 : decode cX8_isShut 10 = .ok (.aload_n 0, 1) := by decide +kernel
theorem dX8_isShut_11 : decode cX8_isShut 11 = .ok (.getfield 35, 3) := by decide +kernel
theorem dX8_isShut_14 : decode cX8_isShut 14 = .ok (.iload_n 1, 1) := by decide +kernel
theorem dX8_isShut_15 : decode cX8_isShut 15 = .ok (.iaload, 1) := by decide +kernel
theorem dX8_isShut_16 : decode cX8_isShut 16 = .ok (.iconst 1, 1) := by decide +kernel
theorem dX8_isShut_17 : decode cX8_isShut 17 = .ok (.isub, 1) := by decide +kernel
theorem dX8_isShut_18 : decode cX8_isShut 18 = .ok (.invokestatic 114, 3) := by decide +kernel
theorem dX8_isShut_21 : decode cX8_isShut 21 = .ok (.ireturn, 1) := by decide +kernel
theorem dX8_carsIn_0 : decode cX8_carsIn 0 = .ok (.iconst 0, 1) := by decide +kernel
theorem dX8_carsIn_1 : decode cX8_carsIn 1 = .ok (.istore_n 2, 1) := by decide +kernel
theorem dX8_carsIn_2 : decode cX8_carsIn 2 = .ok (.aload_n 0, 1) := by decide +kernel
theorem dX8_carsIn_3 : decode cX8_carsIn 3 = .ok (.getfield 75, 3) := by decide +kernel
theorem dX8_carsIn_6 : decode cX8_carsIn 6 = .ok (.iload_n 1, 1) := by decide +kernel
theorem dX8_carsIn_7 : decode cX8_carsIn 7 = .ok (.iaload, 1) := by decide +kernel
theorem dX8_carsIn_8 : decode cX8_carsIn 8 = .ok (.istore_n 3, 1) := by decide +kernel
theorem dX8_carsIn_9 : decode cX8_carsIn 9 = .ok (.iload_n 3, 1) := by decide +kernel
theorem dX8_carsIn_10 : decode cX8_carsIn 10 = .ok (.iconst (-1), 1) := by decide +kernel
theorem dX8_carsIn_11 : decode cX8_carsIn 11 = .ok (.if_icmp .eq 22, 3) := by decide +kernel
theorem dX8_carsIn_14 : decode cX8_carsIn 14 = .ok (.iload_n 2, 1) := by decide +kernel
theorem dX8_carsIn_15 : decode cX8_carsIn 15 = .ok (.aload_n 0, 1) := by decide +kernel
theorem dX8_carsIn_16 : decode cX8_carsIn 16 = .ok (.getfield 66, 3) := by decide +kernel
theorem dX8_carsIn_19 : decode cX8_carsIn 19 = .ok (.iload_n 3, 1) := by decide +kernel
theorem dX8_carsIn_20 : decode cX8_carsIn 20 = .ok (.iaload, 1) := by decide +kernel
theorem dX8_carsIn_21 : decode cX8_carsIn 21 = .ok (.iadd, 1) := by decide +kernel
theorem dX8_carsIn_22 : decode cX8_carsIn 22 = .ok (.istore_n 2, 1) := by decide +kernel
theorem dX8_carsIn_23 : decode cX8_carsIn 23 = .ok (.aload_n 0, 1) := by decide +kernel
theorem dX8_carsIn_24 : decode cX8_carsIn 24 = .ok (.getfield 72, 3) := by decide +kernel
theorem dX8_carsIn_27 : decode cX8_carsIn 27 = .ok (.iload_n 3, 1) := by decide +kernel
theorem dX8_carsIn_28 : decode cX8_carsIn 28 = .ok (.iaload, 1) := by decide +kernel
theorem dX8_carsIn_29 : decode cX8_carsIn 29 = .ok (.istore_n 3, 1) := by decide +kernel
theorem dX8_carsIn_30 : decode cX8_carsIn 30 = .ok (.goto (-21), 3) := by decide +kernel
theorem dX8_carsIn_33 : decode cX8_carsIn 33 = .ok (.iload_n 2, 1) := by decide +kernel
theorem dX8_carsIn_34 : decode cX8_carsIn 34 = .ok (.ireturn, 1) := by decide +kernel
theorem dX8_carsAt_0 : decode cX8_carsAt 0 = .ok (.iconst 0, 1) := by decide +kernel
theorem dX8_carsAt_1 : decode cX8_carsAt 1 = .ok (.istore_n 2, 1) := by decide +kernel
theorem dX8_carsAt_2 : decode cX8_carsAt 2 = .ok (.iconst 0, 1) := by decide +kernel
theorem dX8_carsAt_3 : decode cX8_carsAt 3 = .ok (.istore_n 3, 1) := by decide +kernel
theorem dX8_carsAt_4 : decode cX8_carsAt 4 = .ok (.iload_n 3, 1) := by decide +kernel
theorem dX8_carsAt_5 : decode cX8_carsAt 5 = .ok (.aload_n 0, 1) := by decide +kernel
theorem dX8_carsAt_6 : decode cX8_carsAt 6 = .ok (.getfield 121, 3) := by decide +kernel
theorem dX8_carsAt_9 : decode cX8_carsAt 9 = .ok (.if_icmp .ge 62, 3) := by decide +kernel
theorem dX8_carsAt_12 : decode cX8_carsAt 12 = .ok (.iload_n 2, 1) := by decide +kernel
theorem dX8_carsAt_13 : decode cX8_carsAt 13 = .ok (.aload_n 0, 1) := by decide +kernel
theorem dX8_carsAt_14 : decode cX8_carsAt 14 = .ok (.getfield 81, 3) := by decide +kernel
theorem dX8_carsAt_17 : decode cX8_carsAt 17 = .ok (.iload_n 3, 1) := by decide +kernel
theorem dX8_carsAt_18 : decode cX8_carsAt 18 = .ok (.baload, 1) := by decide +kernel
theorem dX8_carsAt_19 : decode cX8_carsAt 19 = .ok (.ifCond .ne 22, 3) := by decide +kernel
theorem dX8_carsAt_22 : decode cX8_carsAt 22 = .ok (.aload_n 0, 1) := by decide +kernel
theorem dX8_carsAt_23 : decode cX8_carsAt 23 = .ok (.getfield 41, 3) := by decide +kernel
theorem dX8_carsAt_26 : decode cX8_carsAt 26 = .ok (.iload_n 3, 1) := by decide +kernel
theorem dX8_carsAt_27 : decode cX8_carsAt 27 = .ok (.iaload, 1) := by decide +kernel
theorem dX8_carsAt_28 : decode cX8_carsAt 28 = .ok (.iload_n 1, 1) := by decide +kernel
theorem dX8_carsAt_29 : decode cX8_carsAt 29 = .ok (.if_icmp .ne 12, 3) := by decide +kernel
theorem dX8_carsAt_32 : decode cX8_carsAt 32 = .ok (.aload_n 0, 1) := by decide +kernel
theorem dX8_carsAt_33 : decode cX8_carsAt 33 = .ok (.getfield 44, 3) := by decide +kernel
theorem dX8_carsAt_36 : decode cX8_carsAt 36 = .ok (.iload_n 3, 1) := by decide +kernel
theorem dX8_carsAt_37 : decode cX8_carsAt 37 = .ok (.iaload, 1) := by decide +kernel
theorem dX8_carsAt_38 : decode cX8_carsAt 38 = .ok (.goto 4, 3) := by decide +kernel
theorem dX8_carsAt_41 : decode cX8_carsAt 41 = .ok (.iconst 0, 1) := by decide +kernel
theorem dX8_carsAt_42 : decode cX8_carsAt 42 = .ok (.aload_n 0, 1) := by decide +kernel
theorem dX8_carsAt_43 : decode cX8_carsAt 43 = .ok (.getfield 47, 3) := by decide +kernel
theorem dX8_carsAt_46 : decode cX8_carsAt 46 = .ok (.iload_n 3, 1) := by decide +kernel
theorem dX8_carsAt_47 : decode cX8_carsAt 47 = .ok (.iaload, 1) := by decide +kernel
theorem dX8_carsAt_48 : decode cX8_carsAt 48 = .ok (.iload_n 1, 1) := by decide +kernel
theorem dX8_carsAt_49 : decode cX8_carsAt 49 = .ok (.if_icmp .ne 12, 3) := by decide +kernel
theorem dX8_carsAt_52 : decode cX8_carsAt 52 = .ok (.aload_n 0, 1) := by decide +kernel
theorem dX8_carsAt_53 : decode cX8_carsAt 53 = .ok (.getfield 84, 3) := by decide +kernel
theorem dX8_carsAt_56 : decode cX8_carsAt 56 = .ok (.iload_n 3, 1) := by decide +kernel
theorem dX8_carsAt_57 : decode cX8_carsAt 57 = .ok (.iaload, 1) := by decide +kernel
theorem dX8_carsAt_58 : decode cX8_carsAt 58 = .ok (.goto 4, 3) := by decide +kernel
theorem dX8_carsAt_61 : decode cX8_carsAt 61 = .ok (.iconst 0, 1) := by decide +kernel
theorem dX8_carsAt_62 : decode cX8_carsAt 62 = .ok (.iadd, 1) := by decide +kernel
theorem dX8_carsAt_63 : decode cX8_carsAt 63 = .ok (.iadd, 1) := by decide +kernel
theorem dX8_carsAt_64 : decode cX8_carsAt 64 = .ok (.istore_n 2, 1) := by decide +kernel
theorem dX8_carsAt_65 : decode cX8_carsAt 65 = .ok (.iinc 3 1, 3) := by decide +kernel
theorem dX8_carsAt_68 : decode cX8_carsAt 68 = .ok (.goto (-64), 3) := by decide +kernel
theorem dX8_carsAt_71 : decode cX8_carsAt 71 = .ok (.iconst 0, 1) := by decide +kernel
theorem dX8_carsAt_72 : decode cX8_carsAt 72 = .ok (.istore_n 3, 1) := by decide +kernel
theorem dX8_carsAt_73 : decode cX8_carsAt 73 = .ok (.iload_n 3, 1) := by decide +kernel
theorem dX8_carsAt_74 : decode cX8_carsAt 74 = .ok (.aload_n 0, 1) := by decide +kernel
theorem dX8_carsAt_75 : decode cX8_carsAt 75 = .ok (.getfield 118, 3) := by decide +kernel
theorem dX8_carsAt_78 : decode cX8_carsAt 78 = .ok (.if_icmp .ge 31, 3) := by decide +kernel
theorem dX8_carsAt_81 : decode cX8_carsAt 81 = .ok (.iload_n 2, 1) := by decide +kernel
theorem dX8_carsAt_82 : decode cX8_carsAt 82 = .ok (.aload_n 0, 1) := by decide +kernel
theorem dX8_carsAt_83 : decode cX8_carsAt 83 = .ok (.getfield 20, 3) := by decide +kernel
theorem dX8_carsAt_86 : decode cX8_carsAt 86 = .ok (.iload_n 3, 1) := by decide +kernel
theorem dX8_carsAt_87 : decode cX8_carsAt 87 = .ok (.iaload, 1) := by decide +kernel
theorem dX8_carsAt_88 : decode cX8_carsAt 88 = .ok (.iload_n 1, 1) := by decide +kernel
theorem dX8_carsAt_89 : decode cX8_carsAt 89 = .ok (.if_icmp .ne 11, 3) := by decide +kernel
theorem dX8_carsAt_92 : decode cX8_carsAt 92 = .ok (.aload_n 0, 1) := by decide +kernel
theorem dX8_carsAt_93 : decode cX8_carsAt 93 = .ok (.iload_n 3, 1) := by decide +kernel
theorem dX8_carsAt_94 : decode cX8_carsAt 94 = .ok (.invokevirtual 164, 3) := by decide +kernel
theorem dX8_carsAt_97 : decode cX8_carsAt 97 = .ok (.goto 4, 3) := by decide +kernel
theorem dX8_carsAt_100 : decode cX8_carsAt 100 = .ok (.iconst 0, 1) := by decide +kernel
theorem dX8_carsAt_101 : decode cX8_carsAt 101 = .ok (.iadd, 1) := by decide +kernel
theorem dX8_carsAt_102 : decode cX8_carsAt 102 = .ok (.istore_n 2, 1) := by decide +kernel
theorem dX8_carsAt_103 : decode cX8_carsAt 103 = .ok (.iinc 3 1, 3) := by decide +kernel
theorem dX8_carsAt_106 : decode cX8_carsAt 106 = .ok (.goto (-33), 3) := by decide +kernel
theorem dX8_carsAt_109 : decode cX8_carsAt 109 = .ok (.iload_n 2, 1) := by decide +kernel
theorem dX8_carsAt_110 : decode cX8_carsAt 110 = .ok (.ireturn, 1) := by decide +kernel
theorem dX8_hour_0 : decode cX8_hour 0 = .ok (.iconst 0, 1) := by decide +kernel
theorem dX8_hour_1 : decode cX8_hour 1 = .ok (.istore_n 2, 1) := by decide +kernel
theorem dX8_hour_2 : decode cX8_hour 2 = .ok (.iload_n 2, 1) := by decide +kernel
theorem dX8_hour_3 : decode cX8_hour 3 = .ok (.aload_n 0, 1) := by decide +kernel
theorem dX8_hour_4 : decode cX8_hour 4 = .ok (.getfield 118, 3) := by decide +kernel
theorem dX8_hour_7 : decode cX8_hour 7 = .ok (.if_icmp .ge 64, 3) := by decide +kernel
theorem dX8_hour_10 : decode cX8_hour 10 = .ok (.aload_n 0, 1) := by decide +kernel
theorem dX8_hour_11 : decode cX8_hour 11 = .ok (.getfield 75, 3) := by decide +kernel
theorem dX8_hour_14 : decode cX8_hour 14 = .ok (.bipush 16, 2) := by decide +kernel
theorem dX8_hour_16 : decode cX8_hour 16 = .ok (.iload_n 2, 1) := by decide +kernel
theorem dX8_hour_17 : decode cX8_hour 17 = .ok (.iadd, 1) := by decide +kernel
theorem dX8_hour_18 : decode cX8_hour 18 = .ok (.iaload, 1) := by decide +kernel
theorem dX8_hour_19 : decode cX8_hour 19 = .ok (.iconst (-1), 1) := by decide +kernel
theorem dX8_hour_20 : decode cX8_hour 20 = .ok (.if_icmp .eq 45, 3) := by decide +kernel
theorem dX8_hour_23 : decode cX8_hour 23 = .ok (.aload_n 0, 1) := by decide +kernel
theorem dX8_hour_24 : decode cX8_hour 24 = .ok (.getfield 69, 3) := by decide +kernel
theorem dX8_hour_27 : decode cX8_hour 27 = .ok (.aload_n 0, 1) := by decide +kernel
theorem dX8_hour_28 : decode cX8_hour 28 = .ok (.getfield 75, 3) := by decide +kernel
theorem dX8_hour_31 : decode cX8_hour 31 = .ok (.bipush 16, 2) := by decide +kernel
theorem dX8_hour_33 : decode cX8_hour 33 = .ok (.iload_n 2, 1) := by decide +kernel
theorem dX8_hour_34 : decode cX8_hour 34 = .ok (.iadd, 1) := by decide +kernel
theorem dX8_hour_35 : decode cX8_hour 35 = .ok (.iaload, 1) := by decide +kernel
theorem dX8_hour_36 : decode cX8_hour 36 = .ok (.iaload, 1) := by decide +kernel
theorem dX8_hour_37 : decode cX8_hour 37 = .ok (.aload_n 0, 1) := by decide +kernel
theorem dX8_hour_38 : decode cX8_hour 38 = .ok (.getfield 129, 3) := by decide +kernel
theorem dX8_hour_41 : decode cX8_hour 41 = .ok (.if_icmp .ne 24, 3) := by decide +kernel
theorem dX8_hour_44 : decode cX8_hour 44 = .ok (.aload_n 0, 1) := by decide +kernel
theorem dX8_hour_45 : decode cX8_hour 45 = .ok (.aload_n 0, 1) := by decide +kernel
theorem dX8_hour_46 : decode cX8_hour 46 = .ok (.bipush 16, 2) := by decide +kernel
theorem dX8_hour_48 : decode cX8_hour 48 = .ok (.iload_n 2, 1) := by decide +kernel
theorem dX8_hour_49 : decode cX8_hour 49 = .ok (.iadd, 1) := by decide +kernel
theorem dX8_hour_50 : decode cX8_hour 50 = .ok (.invokevirtual 161, 3) := by decide +kernel
theorem dX8_hour_53 : decode cX8_hour 53 = .ok (.aload_n 0, 1) := by decide +kernel
theorem dX8_hour_54 : decode cX8_hour 54 = .ok (.getfield 23, 3) := by decide +kernel
theorem dX8_hour_57 : decode cX8_hour 57 = .ok (.iload_n 2, 1) := by decide +kernel
theorem dX8_hour_58 : decode cX8_hour 58 = .ok (.iaload, 1) := by decide +kernel
theorem dX8_hour_59 : decode cX8_hour 59 = .ok (.invokevirtual 167, 3) := by decide +kernel
theorem dX8_hour_62 : decode cX8_hour 62 = .ok (.goto (-52), 3) := by decide +kernel
theorem dX8_hour_65 : decode cX8_hour 65 = .ok (.iinc 2 1, 3) := by decide +kernel
theorem dX8_hour_68 : decode cX8_hour 68 = .ok (.goto (-66), 3) := by decide +kernel
theorem dX8_hour_71 : decode cX8_hour 71 = .ok (.iconst 0, 1) := by decide +kernel
theorem dX8_hour_72 : decode cX8_hour 72 = .ok (.istore_n 2, 1) := by decide +kernel
theorem dX8_hour_73 : decode cX8_hour 73 = .ok (.iload_n 2, 1) := by decide +kernel
theorem dX8_hour_74 : decode cX8_hour 74 = .ok (.aload_n 0, 1) := by decide +kernel
theorem dX8_hour_75 : decode cX8_hour 75 = .ok (.getfield 121, 3) := by decide +kernel
theorem dX8_hour_78 : decode cX8_hour 78 = .ok (.if_icmp .ge 72, 3) := by decide +kernel
theorem dX8_hour_81 : decode cX8_hour 81 = .ok (.aload_n 0, 1) := by decide +kernel
theorem dX8_hour_82 : decode cX8_hour 82 = .ok (.getfield 81, 3) := by decide +kernel
theorem dX8_hour_85 : decode cX8_hour 85 = .ok (.iload_n 2, 1) := by decide +kernel
theorem dX8_hour_86 : decode cX8_hour 86 = .ok (.baload, 1) := by decide +kernel
theorem dX8_hour_87 : decode cX8_hour 87 = .ok (.ifCond .ne 57, 3) := by decide +kernel
theorem dX8_hour_90 : decode cX8_hour 90 = .ok (.aload_n 0, 1) := by decide +kernel
theorem dX8_hour_91 : decode cX8_hour 91 = .ok (.getfield 50, 3) := by decide +kernel
theorem dX8_hour_94 : decode cX8_hour 94 = .ok (.iload_n 2, 1) := by decide +kernel
theorem dX8_hour_95 : decode cX8_hour 95 = .ok (.iaload, 1) := by decide +kernel
theorem dX8_hour_96 : decode cX8_hour 96 = .ok (.aload_n 0, 1) := by decide +kernel
theorem dX8_hour_97 : decode cX8_hour 97 = .ok (.getfield 129, 3) := by decide +kernel
theorem dX8_hour_100 : decode cX8_hour 100 = .ok (.if_icmp .eq 6, 3) := by decide +kernel
theorem dX8_hour_103 : decode cX8_hour 103 = .ok (.goto 41, 3) := by decide +kernel
theorem dX8_hour_106 : decode cX8_hour 106 = .ok (.aload_n 0, 1) := by decide +kernel
theorem dX8_hour_107 : decode cX8_hour 107 = .ok (.getfield 81, 3) := by decide +kernel
theorem dX8_hour_110 : decode cX8_hour 110 = .ok (.iload_n 2, 1) := by decide +kernel
theorem dX8_hour_111 : decode cX8_hour 111 = .ok (.iconst 1, 1) := by decide +kernel
theorem dX8_hour_112 : decode cX8_hour 112 = .ok (.bastore, 1) := by decide +kernel
theorem dX8_hour_113 : decode cX8_hour 113 = .ok (.aload_n 0, 1) := by decide +kernel
theorem dX8_hour_114 : decode cX8_hour 114 = .ok (.aload_n 0, 1) := by decide +kernel
theorem dX8_hour_115 : decode cX8_hour 115 = .ok (.aload_n 0, 1) := by decide +kernel
theorem dX8_hour_116 : decode cX8_hour 116 = .ok (.getfield 41, 3) := by decide +kernel
theorem dX8_hour_119 : decode cX8_hour 119 = .ok (.iload_n 2, 1) := by decide +kernel
theorem dX8_hour_120 : decode cX8_hour 120 = .ok (.iaload, 1) := by decide +kernel
theorem dX8_hour_121 : decode cX8_hour 121 = .ok (.aload_n 0, 1) := by decide +kernel
theorem dX8_hour_122 : decode cX8_hour 122 = .ok (.getfield 47, 3) := by decide +kernel
theorem dX8_hour_125 : decode cX8_hour 125 = .ok (.iload_n 2, 1) := by decide +kernel
theorem dX8_hour_126 : decode cX8_hour 126 = .ok (.iaload, 1) := by decide +kernel
theorem dX8_hour_127 : decode cX8_hour 127 = .ok (.invokevirtual 151, 3) := by decide +kernel
theorem dX8_hour_130 : decode cX8_hour 130 = .ok (.aload_n 0, 1) := by decide +kernel
theorem dX8_hour_131 : decode cX8_hour 131 = .ok (.iload_n 2, 1) := by decide +kernel
theorem dX8_hour_132 : decode cX8_hour 132 = .ok (.aload_n 0, 1) := by decide +kernel
theorem dX8_hour_133 : decode cX8_hour 133 = .ok (.getfield 44, 3) := by decide +kernel
theorem dX8_hour_136 : decode cX8_hour 136 = .ok (.iload_n 2, 1) := by decide +kernel
theorem dX8_hour_137 : decode cX8_hour 137 = .ok (.iaload, 1) := by decide +kernel
theorem dX8_hour_138 : decode cX8_hour 138 = .ok (.invokevirtual 158, 3) := by decide +kernel
theorem dX8_hour_141 : decode cX8_hour 141 = .ok (.invokevirtual 154, 3) := by decide +kernel
theorem dX8_hour_144 : decode cX8_hour 144 = .ok (.iinc 2 1, 3) := by decide +kernel
theorem dX8_hour_147 : decode cX8_hour 147 = .ok (.goto (-74), 3) := by decide +kernel
theorem dX8_hour_150 : decode cX8_hour 150 = .ok (.iconst 0, 1) := by decide +kernel
theorem dX8_hour_151 : decode cX8_hour 151 = .ok (.istore_n 2, 1) := by decide +kernel
theorem dX8_hour_152 : decode cX8_hour 152 = .ok (.iload_n 2, 1) := by decide +kernel
theorem dX8_hour_153 : decode cX8_hour 153 = .ok (.aload_n 0, 1) := by decide +kernel
theorem dX8_hour_154 : decode cX8_hour 154 = .ok (.getfield 118, 3) := by decide +kernel
theorem dX8_hour_157 : decode cX8_hour 157 = .ok (.if_icmp .ge 71, 3) := by decide +kernel
theorem dX8_hour_160 : decode cX8_hour 160 = .ok (.aload_n 0, 1) := by decide +kernel
theorem dX8_hour_161 : decode cX8_hour 161 = .ok (.iload_n 2, 1) := by decide +kernel
theorem dX8_hour_162 : decode cX8_hour 162 = .ok (.invokevirtual 170, 3) := by decide +kernel
theorem dX8_hour_165 : decode cX8_hour 165 = .ok (.ifCond .eq 7, 3) := by decide +kernel
theorem dX8_hour_168 : decode cX8_hour 168 = .ok (.iconst 0, 1) := by decide +kernel
theorem dX8_hour_169 : decode cX8_hour 169 = .ok (.goto 8, 3) := by decide +kernel
theorem dX8_hour_172 : decode cX8_hour 172 = .ok (.aload_n 0, 1) := by decide +kernel
theorem dX8_hour_173 : decode cX8_hour 173 = .ok (.iload_n 2, 1) := by decide +kernel
theorem dX8_hour_174 : decode cX8_hour 174 = .ok (.invokevirtual 173, 3) := by decide +kernel
theorem dX8_hour_177 : decode cX8_hour 177 = .ok (.istore_n 3, 1) := by decide +kernel
theorem dX8_hour_178 : decode cX8_hour 178 = .ok (.iload_n 1, 1) := by decide +kernel
theorem dX8_hour_179 : decode cX8_hour 179 = .ok (.ifCond .eq 19, 3) := by decide +kernel
theorem dX8_hour_182 : decode cX8_hour 182 = .ok (.aload_n 0, 1) := by decide +kernel
theorem dX8_hour_183 : decode cX8_hour 183 = .ok (.getfield 56, 3) := by decide +kernel
theorem dX8_hour_186 : decode cX8_hour 186 = .ok (.sipush 200, 3) := by decide +kernel
theorem dX8_hour_189 : decode cX8_hour 189 = .ok (.iload_n 2, 1) := by decide +kernel
theorem dX8_hour_190 : decode cX8_hour 190 = .ok (.imul, 1) := by decide +kernel
theorem dX8_hour_191 : decode cX8_hour 191 = .ok (.aload_n 0, 1) := by decide +kernel
theorem dX8_hour_192 : decode cX8_hour 192 = .ok (.getfield 129, 3) := by decide +kernel
theorem dX8_hour_195 : decode cX8_hour 195 = .ok (.iadd, 1) := by decide +kernel
theorem dX8_hour_196 : decode cX8_hour 196 = .ok (.iload_n 3, 1) := by decide +kernel
theorem dX8_hour_197 : decode cX8_hour 197 = .ok (.iastore, 1) := by decide +kernel
theorem dX8_hour_198 : decode cX8_hour 198 = .ok (.iload_n 1, 1) := by decide +kernel
theorem dX8_hour_199 : decode cX8_hour 199 = .ok (.ifCond .eq 23, 3) := by decide +kernel
theorem dX8_hour_202 : decode cX8_hour 202 = .ok (.aload_n 0, 1) := by decide +kernel
theorem dX8_hour_203 : decode cX8_hour 203 = .ok (.getfield 59, 3) := by decide +kernel
theorem dX8_hour_206 : decode cX8_hour 206 = .ok (.sipush 200, 3) := by decide +kernel
theorem dX8_hour_209 : decode cX8_hour 209 = .ok (.iload_n 2, 1) := by decide +kernel
theorem dX8_hour_210 : decode cX8_hour 210 = .ok (.imul, 1) := by decide +kernel
theorem dX8_hour_211 : decode cX8_hour 211 = .ok (.aload_n 0, 1) := by decide +kernel
theorem dX8_hour_212 : decode cX8_hour 212 = .ok (.getfield 129, 3) := by decide +kernel
theorem dX8_hour_215 : decode cX8_hour 215 = .ok (.iadd, 1) := by decide +kernel
theorem dX8_hour_216 : decode cX8_hour 216 = .ok (.aload_n 0, 1) := by decide +kernel
theorem dX8_hour_217 : decode cX8_hour 217 = .ok (.iload_n 2, 1) := by decide +kernel
theorem dX8_hour_218 : decode cX8_hour 218 = .ok (.invokevirtual 170, 3) := by decide +kernel
theorem dX8_hour_221 : decode cX8_hour 221 = .ok (.bastore, 1) := by decide +kernel
theorem dX8_hour_222 : decode cX8_hour 222 = .ok (.iinc 2 1, 3) := by decide +kernel
theorem dX8_hour_225 : decode cX8_hour 225 = .ok (.goto (-73), 3) := by decide +kernel
theorem dX8_hour_228 : decode cX8_hour 228 = .ok (.iconst 0, 1) := by decide +kernel
theorem dX8_hour_229 : decode cX8_hour 229 = .ok (.istore_n 2, 1) := by decide +kernel
theorem dX8_hour_230 : decode cX8_hour 230 = .ok (.iload_n 2, 1) := by decide +kernel
theorem dX8_hour_231 : decode cX8_hour 231 = .ok (.aload_n 0, 1) := by decide +kernel
theorem dX8_hour_232 : decode cX8_hour 232 = .ok (.getfield 118, 3) := by decide +kernel
theorem dX8_hour_235 : decode cX8_hour 235 = .ok (.if_icmp .ge 23, 3) := by decide +kernel
theorem dX8_hour_238 : decode cX8_hour 238 = .ok (.aload_n 0, 1) := by decide +kernel
theorem dX8_hour_239 : decode cX8_hour 239 = .ok (.dup, 1) := by decide +kernel
theorem dX8_hour_240 : decode cX8_hour 240 = .ok (.getfield 176, 3) := by decide +kernel
theorem dX8_hour_243 : decode cX8_hour 243 = .ok (.aload_n 0, 1) := by decide +kernel
theorem dX8_hour_244 : decode cX8_hour 244 = .ok (.iload_n 2, 1) := by decide +kernel
theorem dX8_hour_245 : decode cX8_hour 245 = .ok (.invokevirtual 164, 3) := by decide +kernel
theorem dX8_hour_248 : decode cX8_hour 248 = .ok (.iadd, 1) := by decide +kernel
theorem dX8_hour_249 : decode cX8_hour 249 = .ok (.putfield 176, 3) := by decide +kernel
theorem dX8_hour_252 : decode cX8_hour 252 = .ok (.iinc 2 1, 3) := by decide +kernel
theorem dX8_hour_255 : decode cX8_hour 255 = .ok (.goto (-25), 3) := by decide +kernel
theorem dX8_hour_258 : decode cX8_hour 258 = .ok (.iconst 0, 1) := by decide +kernel
theorem dX8_hour_259 : decode cX8_hour 259 = .ok (.istore_n 2, 1) := by decide +kernel
theorem dX8_hour_260 : decode cX8_hour 260 = .ok (.iload_n 2, 1) := by decide +kernel
theorem dX8_hour_261 : decode cX8_hour 261 = .ok (.aload_n 0, 1) := by decide +kernel
theorem dX8_hour_262 : decode cX8_hour 262 = .ok (.getfield 111, 3) := by decide +kernel
theorem dX8_hour_265 : decode cX8_hour 265 = .ok (.if_icmp .ge 14, 3) := by decide +kernel
theorem dX8_hour_268 : decode cX8_hour 268 = .ok (.aload_n 0, 1) := by decide +kernel
theorem dX8_hour_269 : decode cX8_hour 269 = .ok (.iload_n 2, 1) := by decide +kernel
theorem dX8_hour_270 : decode cX8_hour 270 = .ok (.invokevirtual 179, 3) := by decide +kernel
theorem dX8_hour_273 : decode cX8_hour 273 = .ok (.iinc 2 1, 3) := by decide +kernel
theorem dX8_hour_276 : decode cX8_hour 276 = .ok (.goto (-16), 3) := by decide +kernel
theorem dX8_hour_279 : decode cX8_hour 279 = .ok (.aload_n 0, 1) := by decide +kernel
theorem dX8_hour_280 : decode cX8_hour 280 = .ok (.dup, 1) := by decide +kernel
theorem dX8_hour_281 : decode cX8_hour 281 = .ok (.getfield 129, 3) := by decide +kernel
theorem dX8_hour_284 : decode cX8_hour 284 = .ok (.iconst 1, 1) := by decide +kernel
theorem dX8_hour_285 : decode cX8_hour 285 = .ok (.iadd, 1) := by decide +kernel
theorem dX8_hour_286 : decode cX8_hour 286 = .ok (.putfield 129, 3) := by decide +kernel
theorem dX8_hour_289 : decode cX8_hour 289 = .ok (.return_, 1) := by decide +kernel
theorem dX8_drinks_0 : decode cX8_drinks 0 = .ok (.aload_n 0, 1) := by decide +kernel
theorem dX8_drinks_1 : decode cX8_drinks 1 = .ok (.iload_n 1, 1) := by decide +kernel
theorem dX8_drinks_2 : decode cX8_drinks 2 = .ok (.invokevirtual 183, 3) := by decide +kernel
theorem dX8_drinks_5 : decode cX8_drinks 5 = .ok (.istore_n 2, 1) := by decide +kernel
theorem dX8_drinks_6 : decode cX8_drinks 6 = .ok (.iload_n 2, 1) := by decide +kernel
theorem dX8_drinks_7 : decode cX8_drinks 7 = .ok (.aload_n 0, 1) := by decide +kernel
theorem dX8_drinks_8 : decode cX8_drinks 8 = .ok (.getfield 90, 3) := by decide +kernel
theorem dX8_drinks_11 : decode cX8_drinks 11 = .ok (.iload_n 1, 1) := by decide +kernel
theorem dX8_drinks_12 : decode cX8_drinks 12 = .ok (.iaload, 1) := by decide +kernel
theorem dX8_drinks_13 : decode cX8_drinks 13 = .ok (.if_icmp .le 50, 3) := by decide +kernel
theorem dX8_drinks_16 : decode cX8_drinks 16 = .ok (.aload_n 0, 1) := by decide +kernel
theorem dX8_drinks_17 : decode cX8_drinks 17 = .ok (.getfield 93, 3) := by decide +kernel
theorem dX8_drinks_20 : decode cX8_drinks 20 = .ok (.iload_n 1, 1) := by decide +kernel
theorem dX8_drinks_21 : decode cX8_drinks 21 = .ok (.dup2, 1) := by decide +kernel
theorem dX8_drinks_22 : decode cX8_drinks 22 = .ok (.iaload, 1) := by decide +kernel
theorem dX8_drinks_23 : decode cX8_drinks 23 = .ok (.iload_n 2, 1) := by decide +kernel
theorem dX8_drinks_24 : decode cX8_drinks 24 = .ok (.aload_n 0, 1) := by decide +kernel
theorem dX8_drinks_25 : decode cX8_drinks 25 = .ok (.getfield 90, 3) := by decide +kernel
theorem dX8_drinks_28 : decode cX8_drinks 28 = .ok (.iload_n 1, 1) := by decide +kernel
theorem dX8_drinks_29 : decode cX8_drinks 29 = .ok (.iaload, 1) := by decide +kernel
theorem dX8_drinks_30 : decode cX8_drinks 30 = .ok (.isub, 1) := by decide +kernel
theorem dX8_drinks_31 : decode cX8_drinks 31 = .ok (.iadd, 1) := by decide +kernel
theorem dX8_drinks_32 : decode cX8_drinks 32 = .ok (.iastore, 1) := by decide +kernel
theorem dX8_drinks_33 : decode cX8_drinks 33 = .ok (.aload_n 0, 1) := by decide +kernel
theorem dX8_drinks_34 : decode cX8_drinks 34 = .ok (.getfield 96, 3) := by decide +kernel
theorem dX8_drinks_37 : decode cX8_drinks 37 = .ok (.iload_n 1, 1) := by decide +kernel
theorem dX8_drinks_38 : decode cX8_drinks 38 = .ok (.iaload, 1) := by decide +kernel
theorem dX8_drinks_39 : decode cX8_drinks 39 = .ok (.iconst (-1), 1) := by decide +kernel
theorem dX8_drinks_40 : decode cX8_drinks 40 = .ok (.if_icmp .ne 13, 3) := by decide +kernel
theorem dX8_drinks_43 : decode cX8_drinks 43 = .ok (.aload_n 0, 1) := by decide +kernel
theorem dX8_drinks_44 : decode cX8_drinks 44 = .ok (.getfield 96, 3) := by decide +kernel
theorem dX8_drinks_47 : decode cX8_drinks 47 = .ok (.iload_n 1, 1) := by decide +kernel
theorem dX8_drinks_48 : decode cX8_drinks 48 = .ok (.aload_n 0, 1) := by decide +kernel
theorem dX8_drinks_49 : decode cX8_drinks 49 = .ok (.getfield 129, 3) := by decide +kernel
theorem dX8_drinks_52 : decode cX8_drinks 52 = .ok (.iastore, 1) := by decide +kernel
theorem dX8_drinks_53 : decode cX8_drinks 53 = .ok (.aload_n 0, 1) := by decide +kernel
theorem dX8_drinks_54 : decode cX8_drinks 54 = .ok (.getfield 90, 3) := by decide +kernel
theorem dX8_drinks_57 : decode cX8_drinks 57 = .ok (.iload_n 1, 1) := by decide +kernel
theorem dX8_drinks_58 : decode cX8_drinks 58 = .ok (.iconst 0, 1) := by decide +kernel
theorem dX8_drinks_59 : decode cX8_drinks 59 = .ok (.iastore, 1) := by decide +kernel
theorem dX8_drinks_60 : decode cX8_drinks 60 = .ok (.goto 13, 3) := by decide +kernel
theorem dX8_drinks_63 : decode cX8_drinks 63 = .ok (.aload_n 0, 1) := by decide +kernel
theorem dX8_drinks_64 : decode cX8_drinks 64 = .ok (.getfield 90, 3) := by decide +kernel
theorem dX8_drinks_67 : decode cX8_drinks 67 = .ok (.iload_n 1, 1) := by decide +kernel
theorem dX8_drinks_68 : decode cX8_drinks 68 = .ok (.dup2, 1) := by decide +kernel
theorem dX8_drinks_69 : decode cX8_drinks 69 = .ok (.iaload, 1) := by decide +kernel
theorem dX8_drinks_70 : decode cX8_drinks 70 = .ok (.iload_n 2, 1) := by decide +kernel
theorem dX8_drinks_71 : decode cX8_drinks 71 = .ok (.isub, 1) := by decide +kernel
theorem dX8_drinks_72 : decode cX8_drinks 72 = .ok (.iastore, 1) := by decide +kernel
theorem dX8_drinks_73 : decode cX8_drinks 73 = .ok (.return_, 1) := by decide +kernel
theorem dX8_go_0 : decode cX8_go 0 = .ok (.iload_n 1, 1) := by decide +kernel
theorem dX8_go_1 : decode cX8_go 1 = .ok (.iconst 0, 1) := by decide +kernel
theorem dX8_go_2 : decode cX8_go 2 = .ok (.bipush 50, 2) := by decide +kernel
theorem dX8_go_4 : decode cX8_go 4 = .ok (.invokestatic 114, 3) := by decide +kernel
theorem dX8_go_7 : decode cX8_go 7 = .ok (.ifCond .ne 5, 3) := by decide +kernel
theorem dX8_go_10 : decode cX8_go 10 = .ok (.iconst (-1), 1) := by decide +kernel
theorem dX8_go_11 : decode cX8_go 11 = .ok (.ireturn, 1) := by decide +kernel
theorem dX8_go_12 : decode cX8_go 12 = .ok (.iconst 0, 1) := by decide +kernel
theorem dX8_go_13 : decode cX8_go 13 = .ok (.istore_n 2, 1) := by decide +kernel
theorem dX8_go_14 : decode cX8_go 14 = .ok (.iload_n 2, 1) := by decide +kernel
theorem dX8_go_15 : decode cX8_go 15 = .ok (.iload_n 1, 1) := by decide +kernel
theorem dX8_go_16 : decode cX8_go 16 = .ok (.if_icmp .ge 24, 3) := by decide +kernel
theorem dX8_go_19 : decode cX8_go 19 = .ok (.aload_n 0, 1) := by decide +kernel
theorem dX8_go_20 : decode cX8_go 20 = .ok (.getfield 129, 3) := by decide +kernel
theorem dX8_go_23 : decode cX8_go 23 = .ok (.sipush 200, 3) := by decide +kernel
theorem dX8_go_26 : decode cX8_go 26 = .ok (.if_icmp .ge 14, 3) := by decide +kernel
theorem dX8_go_29 : decode cX8_go 29 = .ok (.aload_n 0, 1) := by decide +kernel
theorem dX8_go_30 : decode cX8_go 30 = .ok (.iconst 1, 1) := by decide +kernel
theorem dX8_go_31 : decode cX8_go 31 = .ok (.invokevirtual 186, 3) := by decide +kernel
theorem dX8_go_34 : decode cX8_go 34 = .ok (.iinc 2 1, 3) := by decide +kernel
theorem dX8_go_37 : decode cX8_go 37 = .ok (.goto (-23), 3) := by decide +kernel
theorem dX8_go_40 : decode cX8_go 40 = .ok (.aload_n 0, 1) := by decide +kernel
theorem dX8_go_41 : decode cX8_go 41 = .ok (.getfield 129, 3) := by decide +kernel
theorem dX8_go_44 : decode cX8_go 44 = .ok (.ireturn, 1) := by decide +kernel
theorem dX8_keeps_0 : decode cX8_keeps 0 = .ok (.aload_n 0, 1) := by decide +kernel
theorem dX8_keeps_1 : decode cX8_keeps 1 = .ok (.getfield 99, 3) := by decide +kernel
theorem dX8_keeps_4 : decode cX8_keeps 4 = .ok (.aload_n 0, 1) := by decide +kernel
theorem dX8_keeps_5 : decode cX8_keeps 5 = .ok (.getfield 190, 3) := by decide +kernel
theorem dX8_keeps_8 : decode cX8_keeps 8 = .ok (.iaload, 1) := by decide +kernel
theorem dX8_keeps_9 : decode cX8_keeps 9 = .ok (.istore_n 3, 1) := by decide +kernel
theorem dX8_keeps_10 : decode cX8_keeps 10 = .ok (.iload_n 2, 1) := by decide +kernel
theorem dX8_keeps_11 : decode cX8_keeps 11 = .ok (.ifCond .ne 13, 3) := by decide +kernel
theorem dX8_keeps_14 : decode cX8_keeps 14 = .ok (.aload_n 0, 1) := by decide +kernel
theorem dX8_keeps_15 : decode cX8_keeps 15 = .ok (.getfield 99, 3) := by decide +kernel
theorem dX8_keeps_18 : decode cX8_keeps 18 = .ok (.aload_n 0, 1) := by decide +kernel
theorem dX8_keeps_19 : decode cX8_keeps 19 = .ok (.getfield 190, 3) := by decide +kernel
theorem dX8_keeps_22 : decode cX8_keeps 22 = .ok (.iload_n 1, 1) := by decide +kernel
theorem dX8_keeps_23 : decode cX8_keeps 23 = .ok (.iastore, 1) := by decide +kernel
theorem dX8_keeps_24 : decode cX8_keeps 24 = .ok (.aload_n 0, 1) := by decide +kernel
theorem dX8_keeps_25 : decode cX8_keeps 25 = .ok (.dup, 1) := by decide +kernel
theorem dX8_keeps_26 : decode cX8_keeps 26 = .ok (.getfield 190, 3) := by decide +kernel
theorem dX8_keeps_29 : decode cX8_keeps 29 = .ok (.iconst 1, 1) := by decide +kernel
theorem dX8_keeps_30 : decode cX8_keeps 30 = .ok (.iadd, 1) := by decide +kernel
theorem dX8_keeps_31 : decode cX8_keeps 31 = .ok (.putfield 190, 3) := by decide +kernel
theorem dX8_keeps_34 : decode cX8_keeps 34 = .ok (.iload_n 2, 1) := by decide +kernel
theorem dX8_keeps_35 : decode cX8_keeps 35 = .ok (.ifCond .eq 7, 3) := by decide +kernel
theorem dX8_keeps_38 : decode cX8_keeps 38 = .ok (.iload_n 3, 1) := by decide +kernel
theorem dX8_keeps_39 : decode cX8_keeps 39 = .ok (.goto 4, 3) := by decide +kernel
theorem dX8_keeps_42 : decode cX8_keeps 42 = .ok (.iload_n 1, 1) := by decide +kernel
theorem dX8_keeps_43 : decode cX8_keeps 43 = .ok (.ireturn, 1) := by decide +kernel
theorem dX8_all_0 : decode cX8_all 0 = .ok (.aload_n 0, 1) := by decide +kernel
theorem dX8_all_1 : decode cX8_all 1 = .ok (.iconst 0, 1) := by decide +kernel
theorem dX8_all_2 : decode cX8_all 2 = .ok (.putfield 190, 3) := by decide +kernel
theorem dX8_all_5 : decode cX8_all 5 = .ok (.aload_n 0, 1) := by decide +kernel
theorem dX8_all_6 : decode cX8_all 6 = .ok (.aload_n 0, 1) := by decide +kernel
theorem dX8_all_7 : decode cX8_all 7 = .ok (.aload_n 0, 1) := by decide +kernel
theorem dX8_all_8 : decode cX8_all 8 = .ok (.getfield 129, 3) := by decide +kernel
theorem dX8_all_11 : decode cX8_all 11 = .ok (.iload_n 1, 1) := by decide +kernel
theorem dX8_all_12 : decode cX8_all 12 = .ok (.invokevirtual 193, 3) := by decide +kernel
theorem dX8_all_15 : decode cX8_all 15 = .ok (.putfield 129, 3) := by decide +kernel
theorem dX8_all_18 : decode cX8_all 18 = .ok (.aload_n 0, 1) := by decide +kernel
theorem dX8_all_19 : decode cX8_all 19 = .ok (.aload_n 0, 1) := by decide +kernel
theorem dX8_all_20 : decode cX8_all 20 = .ok (.aload_n 0, 1) := by decide +kernel
theorem dX8_all_21 : decode cX8_all 21 = .ok (.getfield 148, 3) := by decide +kernel
theorem dX8_all_24 : decode cX8_all 24 = .ok (.iload_n 1, 1) := by decide +kernel
theorem dX8_all_25 : decode cX8_all 25 = .ok (.invokevirtual 193, 3) := by decide +kernel
theorem dX8_all_28 : decode cX8_all 28 = .ok (.putfield 148, 3) := by decide +kernel
theorem dX8_all_31 : decode cX8_all 31 = .ok (.aload_n 0, 1) := by decide +kernel
theorem dX8_all_32 : decode cX8_all 32 = .ok (.aload_n 0, 1) := by decide +kernel
theorem dX8_all_33 : decode cX8_all 33 = .ok (.aload_n 0, 1) := by decide +kernel
theorem dX8_all_34 : decode cX8_all 34 = .ok (.getfield 176, 3) := by decide +kernel
theorem dX8_all_37 : decode cX8_all 37 = .ok (.iload_n 1, 1) := by decide +kernel
theorem dX8_all_38 : decode cX8_all 38 = .ok (.invokevirtual 193, 3) := by decide +kernel
theorem dX8_all_41 : decode cX8_all 41 = .ok (.putfield 176, 3) := by decide +kernel
theorem dX8_all_44 : decode cX8_all 44 = .ok (.iconst 0, 1) := by decide +kernel
theorem dX8_all_45 : decode cX8_all 45 = .ok (.istore_n 2, 1) := by decide +kernel
theorem dX8_all_46 : decode cX8_all 46 = .ok (.iload_n 2, 1) := by decide +kernel
theorem dX8_all_47 : decode cX8_all 47 = .ok (.aload_n 0, 1) := by decide +kernel
theorem dX8_all_48 : decode cX8_all 48 = .ok (.getfield 148, 3) := by decide +kernel
theorem dX8_all_51 : decode cX8_all 51 = .ok (.if_icmp .ge 77, 3) := by decide +kernel
theorem dX8_all_54 : decode cX8_all 54 = .ok (.aload_n 0, 1) := by decide +kernel
theorem dX8_all_55 : decode cX8_all 55 = .ok (.getfield 63, 3) := by decide +kernel
theorem dX8_all_58 : decode cX8_all 58 = .ok (.iload_n 2, 1) := by decide +kernel
theorem dX8_all_59 : decode cX8_all 59 = .ok (.aload_n 0, 1) := by decide +kernel
theorem dX8_all_60 : decode cX8_all 60 = .ok (.aload_n 0, 1) := by decide +kernel
theorem dX8_all_61 : decode cX8_all 61 = .ok (.getfield 63, 3) := by decide +kernel
theorem dX8_all_64 : decode cX8_all 64 = .ok (.iload_n 2, 1) := by decide +kernel
theorem dX8_all_65 : decode cX8_all 65 = .ok (.iaload, 1) := by decide +kernel
theorem dX8_all_66 : decode cX8_all 66 = .ok (.iload_n 1, 1) := by decide +kernel
theorem dX8_all_67 : decode cX8_all 67 = .ok (.invokevirtual 193, 3) := by decide +kernel
theorem dX8_all_70 : decode cX8_all 70 = .ok (.iastore, 1) := by decide +kernel
theorem dX8_all_71 : decode cX8_all 71 = .ok (.aload_n 0, 1) := by decide +kernel
theorem dX8_all_72 : decode cX8_all 72 = .ok (.getfield 66, 3) := by decide +kernel
theorem dX8_all_75 : decode cX8_all 75 = .ok (.iload_n 2, 1) := by decide +kernel
theorem dX8_all_76 : decode cX8_all 76 = .ok (.aload_n 0, 1) := by decide +kernel
theorem dX8_all_77 : decode cX8_all 77 = .ok (.aload_n 0, 1) := by decide +kernel
theorem dX8_all_78 : decode cX8_all 78 = .ok (.getfield 66, 3) := by decide +kernel
theorem dX8_all_81 : decode cX8_all 81 = .ok (.iload_n 2, 1) := by decide +kernel
theorem dX8_all_82 : decode cX8_all 82 = .ok (.iaload, 1) := by decide +kernel
theorem dX8_all_83 : decode cX8_all 83 = .ok (.iload_n 1, 1) := by decide +kernel
theorem dX8_all_84 : decode cX8_all 84 = .ok (.invokevirtual 193, 3) := by decide +kernel
theorem dX8_all_87 : decode cX8_all 87 = .ok (.iastore, 1) := by decide +kernel
theorem dX8_all_88 : decode cX8_all 88 = .ok (.aload_n 0, 1) := by decide +kernel
theorem dX8_all_89 : decode cX8_all 89 = .ok (.getfield 69, 3) := by decide +kernel
theorem dX8_all_92 : decode cX8_all 92 = .ok (.iload_n 2, 1) := by decide +kernel
theorem dX8_all_93 : decode cX8_all 93 = .ok (.aload_n 0, 1) := by decide +kernel
theorem dX8_all_94 : decode cX8_all 94 = .ok (.aload_n 0, 1) := by decide +kernel
theorem dX8_all_95 : decode cX8_all 95 = .ok (.getfield 69, 3) := by decide +kernel
theorem dX8_all_98 : decode cX8_all 98 = .ok (.iload_n 2, 1) := by decide +kernel
theorem dX8_all_99 : decode cX8_all 99 = .ok (.iaload, 1) := by decide +kernel
theorem dX8_all_100 : decode cX8_all 100 = .ok (.iload_n 1, 1) := by decide +kernel
theorem dX8_all_101 : decode cX8_all 101 = .ok (.invokevirtual 193, 3) := by decide +kernel
theorem dX8_all_104 : decode cX8_all 104 = .ok (.iastore, 1) := by decide +kernel
theorem dX8_all_105 : decode cX8_all 105 = .ok (.aload_n 0, 1) := by decide +kernel
theorem dX8_all_106 : decode cX8_all 106 = .ok (.getfield 72, 3) := by decide +kernel
theorem dX8_all_109 : decode cX8_all 109 = .ok (.iload_n 2, 1) := by decide +kernel
theorem dX8_all_110 : decode cX8_all 110 = .ok (.aload_n 0, 1) := by decide +kernel
theorem dX8_all_111 : decode cX8_all 111 = .ok (.aload_n 0, 1) := by decide +kernel
theorem dX8_all_112 : decode cX8_all 112 = .ok (.getfield 72, 3) := by decide +kernel
theorem dX8_all_115 : decode cX8_all 115 = .ok (.iload_n 2, 1) := by decide +kernel
theorem dX8_all_116 : decode cX8_all 116 = .ok (.iaload, 1) := by decide +kernel
theorem dX8_all_117 : decode cX8_all 117 = .ok (.iload_n 1, 1) := by decide +kernel
theorem dX8_all_118 : decode cX8_all 118 = .ok (.invokevirtual 193, 3) := by decide +kernel
theorem dX8_all_121 : decode cX8_all 121 = .ok (.iastore, 1) := by decide +kernel
theorem dX8_all_122 : decode cX8_all 122 = .ok (.iinc 2 1, 3) := by decide +kernel
theorem dX8_all_125 : decode cX8_all 125 = .ok (.goto (-79), 3) := by decide +kernel
theorem dX8_all_128 : decode cX8_all 128 = .ok (.iconst 0, 1) := by decide +kernel
theorem dX8_all_129 : decode cX8_all 129 = .ok (.istore_n 2, 1) := by decide +kernel
theorem dX8_all_130 : decode cX8_all 130 = .ok (.iload_n 2, 1) := by decide +kernel
theorem dX8_all_131 : decode cX8_all 131 = .ok (.bipush 32, 2) := by decide +kernel
theorem dX8_all_133 : decode cX8_all 133 = .ok (.if_icmp .ge 43, 3) := by decide +kernel
theorem dX8_all_136 : decode cX8_all 136 = .ok (.aload_n 0, 1) := by decide +kernel
theorem dX8_all_137 : decode cX8_all 137 = .ok (.getfield 75, 3) := by decide +kernel
theorem dX8_all_140 : decode cX8_all 140 = .ok (.iload_n 2, 1) := by decide +kernel
theorem dX8_all_141 : decode cX8_all 141 = .ok (.aload_n 0, 1) := by decide +kernel
theorem dX8_all_142 : decode cX8_all 142 = .ok (.aload_n 0, 1) := by decide +kernel
theorem dX8_all_143 : decode cX8_all 143 = .ok (.getfield 75, 3) := by decide +kernel
theorem dX8_all_146 : decode cX8_all 146 = .ok (.iload_n 2, 1) := by decide +kernel
theorem dX8_all_147 : decode cX8_all 147 = .ok (.iaload, 1) := by decide +kernel
theorem dX8_all_148 : decode cX8_all 148 = .ok (.iload_n 1, 1) := by decide +kernel
theorem dX8_all_149 : decode cX8_all 149 = .ok (.invokevirtual 193, 3) := by decide +kernel
theorem dX8_all_152 : decode cX8_all 152 = .ok (.iastore, 1) := by decide +kernel
theorem dX8_all_153 : decode cX8_all 153 = .ok (.aload_n 0, 1) := by decide +kernel
theorem dX8_all_154 : decode cX8_all 154 = .ok (.getfield 78, 3) := by decide +kernel
theorem dX8_all_157 : decode cX8_all 157 = .ok (.iload_n 2, 1) := by decide +kernel
theorem dX8_all_158 : decode cX8_all 158 = .ok (.aload_n 0, 1) := by decide +kernel
theorem dX8_all_159 : decode cX8_all 159 = .ok (.aload_n 0, 1) := by decide +kernel
theorem dX8_all_160 : decode cX8_all 160 = .ok (.getfield 78, 3) := by decide +kernel
theorem dX8_all_163 : decode cX8_all 163 = .ok (.iload_n 2, 1) := by decide +kernel
theorem dX8_all_164 : decode cX8_all 164 = .ok (.iaload, 1) := by decide +kernel
theorem dX8_all_165 : decode cX8_all 165 = .ok (.iload_n 1, 1) := by decide +kernel
theorem dX8_all_166 : decode cX8_all 166 = .ok (.invokevirtual 193, 3) := by decide +kernel
theorem dX8_all_169 : decode cX8_all 169 = .ok (.iastore, 1) := by decide +kernel
theorem dX8_all_170 : decode cX8_all 170 = .ok (.iinc 2 1, 3) := by decide +kernel
theorem dX8_all_173 : decode cX8_all 173 = .ok (.goto (-43), 3) := by decide +kernel
theorem dX8_all_176 : decode cX8_all 176 = .ok (.iconst 0, 1) := by decide +kernel
theorem dX8_all_177 : decode cX8_all 177 = .ok (.istore_n 2, 1) := by decide +kernel
theorem dX8_all_178 : decode cX8_all 178 = .ok (.iload_n 2, 1) := by decide +kernel
theorem dX8_all_179 : decode cX8_all 179 = .ok (.bipush 8, 2) := by decide +kernel
theorem dX8_all_181 : decode cX8_all 181 = .ok (.if_icmp .ge 77, 3) := by decide +kernel
theorem dX8_all_184 : decode cX8_all 184 = .ok (.aload_n 0, 1) := by decide +kernel
theorem dX8_all_185 : decode cX8_all 185 = .ok (.getfield 81, 3) := by decide +kernel
theorem dX8_all_188 : decode cX8_all 188 = .ok (.iload_n 2, 1) := by decide +kernel
theorem dX8_all_189 : decode cX8_all 189 = .ok (.aload_n 0, 1) := by decide +kernel
theorem dX8_all_190 : decode cX8_all 190 = .ok (.aload_n 0, 1) := by decide +kernel
theorem dX8_all_191 : decode cX8_all 191 = .ok (.getfield 81, 3) := by decide +kernel
theorem dX8_all_194 : decode cX8_all 194 = .ok (.iload_n 2, 1) := by decide +kernel
theorem dX8_all_195 : decode cX8_all 195 = .ok (.baload, 1) := by decide +kernel
theorem dX8_all_196 : decode cX8_all 196 = .ok (.ifCond .eq 7, 3) := by decide +kernel
theorem dX8_all_199 : decode cX8_all 199 = .ok (.iconst 1, 1) := by decide +kernel
theorem dX8_all_200 : decode cX8_all 200 = .ok (.goto 4, 3) := by decide +kernel
theorem dX8_all_203 : decode cX8_all 203 = .ok (.iconst 0, 1) := by decide +kernel
theorem dX8_all_204 : decode cX8_all 204 = .ok (.iload_n 1, 1) := by decide +kernel
theorem dX8_all_205 : decode cX8_all 205 = .ok (.invokevirtual 193, 3) := by decide +kernel
theorem dX8_all_208 : decode cX8_all 208 = .ok (.iconst 1, 1) := by decide +kernel
theorem dX8_all_209 : decode cX8_all 209 = .ok (.if_icmp .ne 7, 3) := by decide +kernel
theorem dX8_all_212 : decode cX8_all 212 = .ok (.iconst 1, 1) := by decide +kernel
theorem dX8_all_213 : decode cX8_all 213 = .ok (.goto 4, 3) := by decide +kernel
theorem dX8_all_216 : decode cX8_all 216 = .ok (.iconst 0, 1) := by decide +kernel
theorem dX8_all_217 : decode cX8_all 217 = .ok (.bastore, 1) := by decide +kernel
theorem dX8_all_218 : decode cX8_all 218 = .ok (.aload_n 0, 1) := by decide +kernel
theorem dX8_all_219 : decode cX8_all 219 = .ok (.getfield 84, 3) := by decide +kernel
theorem dX8_all_222 : decode cX8_all 222 = .ok (.iload_n 2, 1) := by decide +kernel
theorem dX8_all_223 : decode cX8_all 223 = .ok (.aload_n 0, 1) := by decide +kernel
theorem dX8_all_224 : decode cX8_all 224 = .ok (.aload_n 0, 1) := by decide +kernel
theorem dX8_all_225 : decode cX8_all 225 = .ok (.getfield 84, 3) := by decide +kernel
theorem dX8_all_228 : decode cX8_all 228 = .ok (.iload_n 2, 1) := by decide +kernel
theorem dX8_all_229 : decode cX8_all 229 = .ok (.iaload, 1) := by decide +kernel
theorem dX8_all_230 : decode cX8_all 230 = .ok (.iload_n 1, 1) := by decide +kernel
theorem dX8_all_231 : decode cX8_all 231 = .ok (.invokevirtual 193, 3) := by decide +kernel
theorem dX8_all_234 : decode cX8_all 234 = .ok (.iastore, 1) := by decide +kernel
theorem dX8_all_235 : decode cX8_all 235 = .ok (.aload_n 0, 1) := by decide +kernel
theorem dX8_all_236 : decode cX8_all 236 = .ok (.getfield 87, 3) := by decide +kernel
theorem dX8_all_239 : decode cX8_all 239 = .ok (.iload_n 2, 1) := by decide +kernel
theorem dX8_all_240 : decode cX8_all 240 = .ok (.aload_n 0, 1) := by decide +kernel
theorem dX8_all_241 : decode cX8_all 241 = .ok (.aload_n 0, 1) := by decide +kernel
theorem dX8_all_242 : decode cX8_all 242 = .ok (.getfield 87, 3) := by decide +kernel
theorem dX8_all_245 : decode cX8_all 245 = .ok (.iload_n 2, 1) := by decide +kernel
theorem dX8_all_246 : decode cX8_all 246 = .ok (.iaload, 1) := by decide +kernel
theorem dX8_all_247 : decode cX8_all 247 = .ok (.iload_n 1, 1) := by decide +kernel
theorem dX8_all_248 : decode cX8_all 248 = .ok (.invokevirtual 193, 3) := by decide +kernel
theorem dX8_all_251 : decode cX8_all 251 = .ok (.iastore, 1) := by decide +kernel
theorem dX8_all_252 : decode cX8_all 252 = .ok (.iinc 2 1, 3) := by decide +kernel
theorem dX8_all_255 : decode cX8_all 255 = .ok (.goto (-77), 3) := by decide +kernel
theorem dX8_all_258 : decode cX8_all 258 = .ok (.iconst 0, 1) := by decide +kernel
theorem dX8_all_259 : decode cX8_all 259 = .ok (.istore_n 2, 1) := by decide +kernel
theorem dX8_all_260 : decode cX8_all 260 = .ok (.iload_n 2, 1) := by decide +kernel
theorem dX8_all_261 : decode cX8_all 261 = .ok (.bipush 10, 2) := by decide +kernel
theorem dX8_all_263 : decode cX8_all 263 = .ok (.if_icmp .ge 43, 3) := by decide +kernel
theorem dX8_all_266 : decode cX8_all 266 = .ok (.aload_n 0, 1) := by decide +kernel
theorem dX8_all_267 : decode cX8_all 267 = .ok (.getfield 90, 3) := by decide +kernel
theorem dX8_all_270 : decode cX8_all 270 = .ok (.iload_n 2, 1) := by decide +kernel
theorem dX8_all_271 : decode cX8_all 271 = .ok (.aload_n 0, 1) := by decide +kernel
theorem dX8_all_272 : decode cX8_all 272 = .ok (.aload_n 0, 1) := by decide +kernel
theorem dX8_all_273 : decode cX8_all 273 = .ok (.getfield 90, 3) := by decide +kernel
theorem dX8_all_276 : decode cX8_all 276 = .ok (.iload_n 2, 1) := by decide +kernel
theorem dX8_all_277 : decode cX8_all 277 = .ok (.iaload, 1) := by decide +kernel
theorem dX8_all_278 : decode cX8_all 278 = .ok (.iload_n 1, 1) := by decide +kernel
theorem dX8_all_279 : decode cX8_all 279 = .ok (.invokevirtual 193, 3) := by decide +kernel
theorem dX8_all_282 : decode cX8_all 282 = .ok (.iastore, 1) := by decide +kernel
theorem dX8_all_283 : decode cX8_all 283 = .ok (.aload_n 0, 1) := by decide +kernel
theorem dX8_all_284 : decode cX8_all 284 = .ok (.getfield 93, 3) := by decide +kernel
theorem dX8_all_287 : decode cX8_all 287 = .ok (.iload_n 2, 1) := by decide +kernel
theorem dX8_all_288 : decode cX8_all 288 = .ok (.aload_n 0, 1) := by decide +kernel
theorem dX8_all_289 : decode cX8_all 289 = .ok (.aload_n 0, 1) := by decide +kernel
theorem dX8_all_290 : decode cX8_all 290 = .ok (.getfield 93, 3) := by decide +kernel
theorem dX8_all_293 : decode cX8_all 293 = .ok (.iload_n 2, 1) := by decide +kernel
theorem dX8_all_294 : decode cX8_all 294 = .ok (.iaload, 1) := by decide +kernel
theorem dX8_all_295 : decode cX8_all 295 = .ok (.iload_n 1, 1) := by decide +kernel
theorem dX8_all_296 : decode cX8_all 296 = .ok (.invokevirtual 193, 3) := by decide +kernel
theorem dX8_all_299 : decode cX8_all 299 = .ok (.iastore, 1) := by decide +kernel
theorem dX8_all_300 : decode cX8_all 300 = .ok (.iinc 2 1, 3) := by decide +kernel
theorem dX8_all_303 : decode cX8_all 303 = .ok (.goto (-43), 3) := by decide +kernel
theorem dX8_all_306 : decode cX8_all 306 = .ok (.return_, 1) := by decide +kernel
theorem dX8_foresees_0 : decode cX8_foresees 0 = .ok (.aload_n 0, 1) := by decide +kernel
theorem dX8_foresees_1 : decode cX8_foresees 1 = .ok (.iconst 0, 1) := by decide +kernel
theorem dX8_foresees_2 : decode cX8_foresees 2 = .ok (.invokevirtual 197, 3) := by decide +kernel
theorem dX8_foresees_5 : decode cX8_foresees 5 = .ok (.aload_n 0, 1) := by decide +kernel
theorem dX8_foresees_6 : decode cX8_foresees 6 = .ok (.getfield 176, 3) := by decide +kernel
theorem dX8_foresees_9 : decode cX8_foresees 9 = .ok (.istore_n 1, 1) := by decide +kernel
theorem dX8_foresees_10 : decode cX8_foresees 10 = .ok (.iconst 0, 1) := by decide +kernel
theorem dX8_foresees_11 : decode cX8_foresees 11 = .ok (.istore_n 2, 1) := by decide +kernel
theorem dX8_foresees_12 : decode cX8_foresees 12 = .ok (.iload_n 2, 1) := by decide +kernel
theorem dX8_foresees_13 : decode cX8_foresees 13 = .ok (.bipush 10, 2) := by decide +kernel
theorem dX8_foresees_15 : decode cX8_foresees 15 = .ok (.if_icmp .ge 16, 3) := by decide +kernel
theorem dX8_foresees_18 : decode cX8_foresees 18 = .ok (.aload_n 0, 1) := by decide +kernel
theorem dX8_foresees_19 : decode cX8_foresees 19 = .ok (.getfield 96, 3) := by decide +kernel
theorem dX8_foresees_22 : decode cX8_foresees 22 = .ok (.iload_n 2, 1) := by decide +kernel
theorem dX8_foresees_23 : decode cX8_foresees 23 = .ok (.iconst (-1), 1) := by decide +kernel
theorem dX8_foresees_24 : decode cX8_foresees 24 = .ok (.iastore, 1) := by decide +kernel
theorem dX8_foresees_25 : decode cX8_foresees 25 = .ok (.iinc 2 1, 3) := by decide +kernel
