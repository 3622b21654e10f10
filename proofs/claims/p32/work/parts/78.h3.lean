/-! the names of the law's helpers -/
theorem dL_hand_398 : decode cL_hand 398 = .ok (.iconst 0, 1) := by decide +kernel
theorem dL_hand_399 : decode cL_hand 399 = .ok (.iand, 1) := by decide +kernel
theorem dL_hand_400 : decode cL_hand 400 = .ok (.istore 5, 2) := by decide +kernel
theorem dL_hand_402 : decode cL_hand 402 = .ok (.iload 5, 2) := by decide +kernel
theorem dL_hand_404 : decode cL_hand 404 = .ok (.ifCond .eq 30, 3) := by decide +kernel
theorem dL_hand_407 : decode cL_hand 407 = .ok (.aload_n 0, 1) := by decide +kernel
theorem dL_hand_408 : decode cL_hand 408 = .ok (.invokevirtual 37, 3) := by decide +kernel
theorem dL_hand_411 : decode cL_hand 411 = .ok (.aload_n 1, 1) := by decide +kernel
theorem dL_hand_412 : decode cL_hand 412 = .ok (.iconst 0, 1) := by decide +kernel
theorem dL_hand_413 : decode cL_hand 413 = .ok (.iaload, 1) := by decide +kernel
theorem dL_hand_414 : decode cL_hand 414 = .ok (.iconst 4, 1) := by decide +kernel
theorem dL_hand_415 : decode cL_hand 415 = .ok (.iadd, 1) := by decide +kernel
theorem dL_hand_416 : decode cL_hand 416 = .ok (.if_icmp .ne 18, 3) := by decide +kernel
theorem dL_hand_419 : decode cL_hand 419 = .ok (.aload_n 0, 1) := by decide +kernel
theorem dL_hand_420 : decode cL_hand 420 = .ok (.iconst 0, 1) := by decide +kernel
theorem dL_hand_421 : decode cL_hand 421 = .ok (.invokevirtual 41, 3) := by decide +kernel
theorem dL_hand_424 : decode cL_hand 424 = .ok (.aload_n 1, 1) := by decide +kernel
theorem dL_hand_425 : decode cL_hand 425 = .ok (.iconst 0, 1) := by decide +kernel
theorem dL_hand_426 : decode cL_hand 426 = .ok (.iaload, 1) := by decide +kernel
theorem dL_hand_427 : decode cL_hand 427 = .ok (.if_icmp .ne 7, 3) := by decide +kernel
theorem dL_hand_430 : decode cL_hand 430 = .ok (.iconst 1, 1) := by decide +kernel
theorem dL_hand_431 : decode cL_hand 431 = .ok (.goto 4, 3) := by decide +kernel
theorem dL_hand_434 : decode cL_hand 434 = .ok (.iconst 0, 1) := by decide +kernel
theorem dL_hand_435 : decode cL_hand 435 = .ok (.ireturn, 1) := by decide +kernel
set_option maxRecDepth 20000 in
theorem ggL_sight_X2_count : GoodIn wsL_sight wsX2_count := goodIn_r _ [8, 9, 10, 11, 12, 13, 14, 15, 16, 17, 18, 19, 20, 21, 22, 23, 24, 7, 25, 55, 56, 57, 58, 59, 60, 61, 62, 63, 64, 65, 66, 67, 68, 69, 70, 71, 72, 73, 74, 75, 76, 77, 78] (by decide +kernel) (by decide +kernel)
set_option maxRecDepth 20000 in
theorem gL_sight_X2_count : GoodIn wsL_sight (wsV RL 41 RX2 yX2_count wsX2_count) := goodIn_app (goodIn_of _ (by decide +kernel)) ggL_sight_X2_count
set_option maxRecDepth 20000 in
theorem ggL_sight_X2_part : GoodIn wsL_sight wsX2_part := goodIn_r _ [29, 10, 11, 30, 31, 32, 33, 34, 7, 35, 9, 23, 24, 25, 36, 37, 38, 39, 40, 41, 42, 43, 44, 45, 46, 47, 48, 49, 50, 51, 52, 53, 54, 55, 56, 57, 58, 59, 60, 61, 62, 63, 64, 65, 66, 67, 68, 69, 70, 71, 72, 73, 74, 75, 76, 77, 78] (by decide +kernel) (by decide +kernel)
set_option maxRecDepth 20000 in
theorem gL_sight_X2_part : GoodIn wsL_sight (wsV RL 85 RX2 yX2_part wsX2_part) := goodIn_app (goodIn_of _ (by decide +kernel)) ggL_sight_X2_part
theorem dL_sight_0 : decode cL_sight 0 = .ok (.ldc2_w 79, 3) := by decide +kernel
theorem dL_sight_3 : decode cL_sight 3 = .ok (.lstore_n 1, 1) := by decide +kernel
theorem dL_sight_4 : decode cL_sight 4 = .ok (.iconst 0, 1) := by decide +kernel
theorem dL_sight_5 : decode cL_sight 5 = .ok (.istore_n 3, 1) := by decide +kernel
theorem dL_sight_6 : decode cL_sight 6 = .ok (.iload_n 3, 1) := by decide +kernel
theorem dL_sight_7 : decode cL_sight 7 = .ok (.bipush 18, 2) := by decide +kernel
theorem dL_sight_9 : decode cL_sight 9 = .ok (.if_icmp .ge 50, 3) := by decide +kernel
theorem dL_sight_12 : decode cL_sight 12 = .ok (.ldc2_w 81, 3) := by decide +kernel
theorem dL_sight_15 : decode cL_sight 15 = .ok (.lload_n 1, 1) := by decide +kernel
theorem dL_sight_16 : decode cL_sight 16 = .ok (.lmul, 1) := by decide +kernel
theorem dL_sight_17 : decode cL_sight 17 = .ok (.iload_n 3, 1) := by decide +kernel
theorem dL_sight_18 : decode cL_sight 18 = .ok (.bipush 8, 2) := by decide +kernel
theorem dL_sight_20 : decode cL_sight 20 = .ok (.if_icmp .eq 21, 3) := by decide +kernel
theorem dL_sight_23 : decode cL_sight 23 = .ok (.iload_n 3, 1) := by decide +kernel
theorem dL_sight_24 : decode cL_sight 24 = .ok (.bipush 9, 2) := by decide +kernel
theorem dL_sight_26 : decode cL_sight 26 = .ok (.if_icmp .eq 15, 3) := by decide +kernel
theorem dL_sight_29 : decode cL_sight 29 = .ok (.iload_n 3, 1) := by decide +kernel
theorem dL_sight_30 : decode cL_sight 30 = .ok (.bipush 10, 2) := by decide +kernel
theorem dL_sight_32 : decode cL_sight 32 = .ok (.if_icmp .le 13, 3) := by decide +kernel
theorem dL_sight_35 : decode cL_sight 35 = .ok (.iload_n 3, 1) := by decide +kernel
theorem dL_sight_36 : decode cL_sight 36 = .ok (.bipush 17, 2) := by decide +kernel
theorem dL_sight_38 : decode cL_sight 38 = .ok (.if_icmp .ge 7, 3) := by decide +kernel
theorem dL_sight_41 : decode cL_sight 41 = .ok (.iconst 0, 1) := by decide +kernel
theorem dL_sight_42 : decode cL_sight 42 = .ok (.goto 8, 3) := by decide +kernel
theorem dL_sight_45 : decode cL_sight 45 = .ok (.aload_n 0, 1) := by decide +kernel
theorem dL_sight_46 : decode cL_sight 46 = .ok (.iload_n 3, 1) := by decide +kernel
theorem dL_sight_47 : decode cL_sight 47 = .ok (.invokevirtual 41, 3) := by decide +kernel
theorem dL_sight_50 : decode cL_sight 50 = .ok (.i2l, 1) := by decide +kernel
theorem dL_sight_51 : decode cL_sight 51 = .ok (.ladd, 1) := by decide +kernel
theorem dL_sight_52 : decode cL_sight 52 = .ok (.lstore_n 1, 1) := by decide +kernel
theorem dL_sight_53 : decode cL_sight 53 = .ok (.iinc 3 1, 3) := by decide +kernel
theorem dL_sight_56 : decode cL_sight 56 = .ok (.goto (-50), 3) := by decide +kernel
theorem dL_sight_59 : decode cL_sight 59 = .ok (.iconst 0, 1) := by decide +kernel
theorem dL_sight_60 : decode cL_sight 60 = .ok (.istore_n 3, 1) := by decide +kernel
theorem dL_sight_61 : decode cL_sight 61 = .ok (.iload_n 3, 1) := by decide +kernel
theorem dL_sight_62 : decode cL_sight 62 = .ok (.aload_n 0, 1) := by decide +kernel
theorem dL_sight_63 : decode cL_sight 63 = .ok (.iconst 0, 1) := by decide +kernel
theorem dL_sight_64 : decode cL_sight 64 = .ok (.invokevirtual 41, 3) := by decide +kernel
theorem dL_sight_67 : decode cL_sight 67 = .ok (.if_icmp .ge 35, 3) := by decide +kernel
theorem dL_sight_70 : decode cL_sight 70 = .ok (.ldc2_w 81, 3) := by decide +kernel
theorem dL_sight_73 : decode cL_sight 73 = .ok (.lload_n 1, 1) := by decide +kernel
theorem dL_sight_74 : decode cL_sight 74 = .ok (.lmul, 1) := by decide +kernel
theorem dL_sight_75 : decode cL_sight 75 = .ok (.ldc2_w 83, 3) := by decide +kernel
theorem dL_sight_78 : decode cL_sight 78 = .ok (.aload_n 0, 1) := by decide +kernel
theorem dL_sight_79 : decode cL_sight 79 = .ok (.iload_n 3, 1) := by decide +kernel
theorem dL_sight_80 : decode cL_sight 80 = .ok (.iconst 0, 1) := by decide +kernel
theorem dL_sight_81 : decode cL_sight 81 = .ok (.invokevirtual 85, 3) := by decide +kernel
theorem dL_sight_84 : decode cL_sight 84 = .ok (.i2l, 1) := by decide +kernel
theorem dL_sight_85 : decode cL_sight 85 = .ok (.lmul, 1) := by decide +kernel
theorem dL_sight_86 : decode cL_sight 86 = .ok (.ladd, 1) := by decide +kernel
theorem dL_sight_87 : decode cL_sight 87 = .ok (.aload_n 0, 1) := by decide +kernel
theorem dL_sight_88 : decode cL_sight 88 = .ok (.iload_n 3, 1) := by decide +kernel
theorem dL_sight_89 : decode cL_sight 89 = .ok (.iconst 2, 1) := by decide +kernel
theorem dL_sight_90 : decode cL_sight 90 = .ok (.invokevirtual 85, 3) := by decide +kernel
theorem dL_sight_93 : decode cL_sight 93 = .ok (.i2l, 1) := by decide +kernel
theorem dL_sight_94 : decode cL_sight 94 = .ok (.ladd, 1) := by decide +kernel
theorem dL_sight_95 : decode cL_sight 95 = .ok (.lstore_n 1, 1) := by decide +kernel
theorem dL_sight_96 : decode cL_sight 96 = .ok (.iinc 3 1, 3) := by decide +kernel
theorem dL_sight_99 : decode cL_sight 99 = .ok (.goto (-38), 3) := by decide +kernel
theorem dL_sight_102 : decode cL_sight 102 = .ok (.lload_n 1, 1) := by decide +kernel
theorem dL_sight_103 : decode cL_sight 103 = .ok (.lreturn, 1) := by decide +kernel
