theorem dX2_refuse_0 : decode cX2_refuse 0 = .ok (.aload_n 0, 1) := by decide +kernel
theorem dX2_refuse_1 : decode cX2_refuse 1 = .ok (.getfield 39, 3) := by decide +kernel
theorem dX2_refuse_4 : decode cX2_refuse 4 = .ok (.iload_n 1, 1) := by decide +kernel
theorem dX2_refuse_5 : decode cX2_refuse 5 = .ok (.ineg, 1) := by decide +kernel
theorem dX2_refuse_6 : decode cX2_refuse 6 = .ok (.aload_n 0, 1) := by decide +kernel
theorem dX2_refuse_7 : decode cX2_refuse 7 = .ok (.getfield 39, 3) := by decide +kernel
theorem dX2_refuse_10 : decode cX2_refuse 10 = .ok (.iload_n 1, 1) := by decide +kernel
theorem dX2_refuse_11 : decode cX2_refuse 11 = .ok (.ineg, 1) := by decide +kernel
theorem dX2_refuse_12 : decode cX2_refuse 12 = .ok (.invokestatic 77, 3) := by decide +kernel
theorem dX2_refuse_15 : decode cX2_refuse 15 = .ok (.iconst 1, 1) := by decide +kernel
theorem dX2_refuse_16 : decode cX2_refuse 16 = .ok (.iadd, 1) := by decide +kernel
theorem dX2_refuse_17 : decode cX2_refuse 17 = .ok (.invokestatic 60, 3) := by decide +kernel
theorem dX2_refuse_20 : decode cX2_refuse 20 = .ok (.iload_n 1, 1) := by decide +kernel
theorem dX2_refuse_21 : decode cX2_refuse 21 = .ok (.ireturn, 1) := by decide +kernel
set_option maxRecDepth 20000 in
theorem ggX2_tryRefusal_X2_isTry : GoodIn wsX2_tryRefusal wsX2_isTry := goodIn_r _ [5] (by decide +kernel) (by decide +kernel)
set_option maxRecDepth 20000 in
theorem gX2_tryRefusal_X2_isTry : GoodIn wsX2_tryRefusal (va_wsS RX2 103 yX2_isTry wsX2_isTry) := goodIn_app (goodIn_of _ (by decide +kernel)) ggX2_tryRefusal_X2_isTry
set_option maxRecDepth 20000 in
theorem ggX2_tryRefusal_X2_refuse : GoodIn wsX2_tryRefusal wsX2_refuse := goodIn_r _ [9, 10, 11, 12, 4, 13, 14, 15, 16, 24, 25, 26, 27, 28, 29, 30, 31, 32, 33, 34, 35] (by decide +kernel) (by decide +kernel)
set_option maxRecDepth 20000 in
theorem gX2_tryRefusal_X2_refuse : GoodIn wsX2_tryRefusal (wsV RX2 56 RX2 yX2_refuse wsX2_refuse) := goodIn_app (goodIn_of _ (by decide +kernel)) ggX2_tryRefusal_X2_refuse
set_option maxRecDepth 20000 in
theorem ggX2_tryRefusal_X0_isOff : GoodIn wsX2_tryRefusal wsX0_isOff := goodIn_r _ [21, 22, 23, 36, 37, 38, 39, 40, 41, 42, 43, 44, 45, 46, 47] (by decide +kernel) (by decide +kernel)
set_option maxRecDepth 20000 in
theorem gX2_tryRefusal_X0_isOff : GoodIn wsX2_tryRefusal (wsV RX2 142 RX0 yX0_isOff wsX0_isOff) := goodIn_app (goodIn_of _ (by decide +kernel)) ggX2_tryRefusal_X0_isOff
theorem dX2_tryRefusal_0 : decode cX2_tryRefusal 0 = .ok (.iload_n 1, 1) := by decide +kernel
theorem dX2_tryRefusal_1 : decode cX2_tryRefusal 1 = .ok (.invokestatic 103, 3) := by decide +kernel
theorem dX2_tryRefusal_4 : decode cX2_tryRefusal 4 = .ok (.ifCond .ne 10, 3) := by decide +kernel
theorem dX2_tryRefusal_7 : decode cX2_tryRefusal 7 = .ok (.aload_n 0, 1) := by decide +kernel
theorem dX2_tryRefusal_8 : decode cX2_tryRefusal 8 = .ok (.bipush (-2), 2) := by decide +kernel
theorem dX2_tryRefusal_10 : decode cX2_tryRefusal 10 = .ok (.invokevirtual 56, 3) := by decide +kernel
theorem dX2_tryRefusal_13 : decode cX2_tryRefusal 13 = .ok (.ireturn, 1) := by decide +kernel
theorem dX2_tryRefusal_14 : decode cX2_tryRefusal 14 = .ok (.aload_n 0, 1) := by decide +kernel
theorem dX2_tryRefusal_15 : decode cX2_tryRefusal 15 = .ok (.getfield 10, 3) := by decide +kernel
theorem dX2_tryRefusal_18 : decode cX2_tryRefusal 18 = .ok (.invokevirtual 142, 3) := by decide +kernel
theorem dX2_tryRefusal_21 : decode cX2_tryRefusal 21 = .ok (.ifCond .eq 12, 3) := by decide +kernel
theorem dX2_tryRefusal_24 : decode cX2_tryRefusal 24 = .ok (.aload_n 0, 1) := by decide +kernel
theorem dX2_tryRefusal_25 : decode cX2_tryRefusal 25 = .ok (.bipush (-3), 2) := by decide +kernel
theorem dX2_tryRefusal_27 : decode cX2_tryRefusal 27 = .ok (.invokevirtual 56, 3) := by decide +kernel
theorem dX2_tryRefusal_30 : decode cX2_tryRefusal 30 = .ok (.goto 4, 3) := by decide +kernel
theorem dX2_tryRefusal_33 : decode cX2_tryRefusal 33 = .ok (.iconst 0, 1) := by decide +kernel
theorem dX2_tryRefusal_34 : decode cX2_tryRefusal 34 = .ok (.ireturn, 1) := by decide +kernel
theorem dX2_isTry_0 : decode cX2_isTry 0 = .ok (.iload_n 0, 1) := by decide +kernel
theorem dX2_isTry_1 : decode cX2_isTry 1 = .ok (.ifCond .lt 13, 3) := by decide +kernel
theorem dX2_isTry_4 : decode cX2_isTry 4 = .ok (.iload_n 0, 1) := by decide +kernel
theorem dX2_isTry_5 : decode cX2_isTry 5 = .ok (.bipush 6, 2) := by decide +kernel
theorem dX2_isTry_7 : decode cX2_isTry 7 = .ok (.if_icmp .gt 7, 3) := by decide +kernel
theorem dX2_isTry_10 : decode cX2_isTry 10 = .ok (.iconst 1, 1) := by decide +kernel
theorem dX2_isTry_11 : decode cX2_isTry 11 = .ok (.goto 4, 3) := by decide +kernel
theorem dX2_isTry_14 : decode cX2_isTry 14 = .ok (.iconst 0, 1) := by decide +kernel
theorem dX2_isTry_15 : decode cX2_isTry 15 = .ok (.ireturn, 1) := by decide +kernel
theorem dX2_isEither_0 : decode cX2_isEither 0 = .ok (.iload_n 0, 1) := by decide +kernel
theorem dX2_isEither_1 : decode cX2_isEither 1 = .ok (.ifCond .eq 8, 3) := by decide +kernel
theorem dX2_isEither_4 : decode cX2_isEither 4 = .ok (.iload_n 0, 1) := by decide +kernel
theorem dX2_isEither_5 : decode cX2_isEither 5 = .ok (.iconst 1, 1) := by decide +kernel
theorem dX2_isEither_6 : decode cX2_isEither 6 = .ok (.if_icmp .ne 7, 3) := by decide +kernel
theorem dX2_isEither_9 : decode cX2_isEither 9 = .ok (.iconst 1, 1) := by decide +kernel
theorem dX2_isEither_10 : decode cX2_isEither 10 = .ok (.goto 4, 3) := by decide +kernel
theorem dX2_isEither_13 : decode cX2_isEither 13 = .ok (.iconst 0, 1) := by decide +kernel
theorem dX2_isEither_14 : decode cX2_isEither 14 = .ok (.ireturn, 1) := by decide +kernel
set_option maxRecDepth 20000 in
theorem ggX2_failuresAhead_X0_copyFrom : GoodIn wsX2_failuresAhead wsX0_copyFrom := goodIn_r _ [7, 8, 9, 10, 11, 12, 13, 14, 15, 16, 17, 18, 19, 20, 21, 22, 23, 66, 67, 68, 69, 70, 71, 72, 73, 74, 75, 76, 77] (by decide +kernel) (by decide +kernel)
set_option maxRecDepth 20000 in
theorem gX2_failuresAhead_X0_copyFrom : GoodIn wsX2_failuresAhead (wsV RX2 152 RX0 yX0_copyFrom wsX0_copyFrom) := goodIn_app (goodIn_of _ (by decide +kernel)) ggX2_failuresAhead_X0_copyFrom
set_option maxRecDepth 20000 in
theorem ggX2_failuresAhead_X0_goesOver : GoodIn wsX2_failuresAhead wsX0_goesOver := goodIn_r _ [27, 8, 17, 13, 18, 21, 15, 16, 28, 29, 30, 6, 31, 14, 32, 33, 34, 35, 36, 37, 38, 19, 39, 40, 41, 42, 43, 44, 45, 46, 47, 48, 49, 66, 67, 68, 69, 70, 71, 72, 73, 74, 75, 76, 77] (by decide +kernel) (by decide +kernel)
set_option maxRecDepth 20000 in
theorem gX2_failuresAhead_X0_goesOver : GoodIn wsX2_failuresAhead (wsV RX2 139 RX0 yX0_goesOver wsX0_goesOver) := goodIn_app (goodIn_of _ (by decide +kernel)) ggX2_failuresAhead_X0_goesOver
set_option maxRecDepth 20000 in
theorem ggX2_failuresAhead_X0_strain : GoodIn wsX2_failuresAhead wsX0_strain := goodIn_r _ [53, 19, 18, 39, 40, 41, 42, 23, 22, 20, 35, 36, 37, 6, 38, 32, 33, 34, 66, 67, 68, 69, 70, 71, 72, 73, 74, 75, 76, 77] (by decide +kernel) (by decide +kernel)
set_option maxRecDepth 20000 in
theorem gX2_failuresAhead_X0_strain : GoodIn wsX2_failuresAhead (wsV RX2 226 RX0 yX0_strain wsX0_strain) := goodIn_app (goodIn_of _ (by decide +kernel)) ggX2_failuresAhead_X0_strain
theorem dX2_failuresAhead_0 : decode cX2_failuresAhead 0 = .ok (.aload_n 0, 1) := by decide +kernel
theorem dX2_failuresAhead_1 : decode cX2_failuresAhead 1 = .ok (.getfield 19, 3) := by decide +kernel
theorem dX2_failuresAhead_4 : decode cX2_failuresAhead 4 = .ok (.aload_n 0, 1) := by decide +kernel
theorem dX2_failuresAhead_5 : decode cX2_failuresAhead 5 = .ok (.getfield 10, 3) := by decide +kernel
theorem dX2_failuresAhead_8 : decode cX2_failuresAhead 8 = .ok (.invokevirtual 152, 3) := by decide +kernel
theorem dX2_failuresAhead_11 : decode cX2_failuresAhead 11 = .ok (.iconst 0, 1) := by decide +kernel
theorem dX2_failuresAhead_12 : decode cX2_failuresAhead 12 = .ok (.istore_n 2, 1) := by decide +kernel
theorem dX2_failuresAhead_13 : decode cX2_failuresAhead 13 = .ok (.iload_n 2, 1) := by decide +kernel
theorem dX2_failuresAhead_14 : decode cX2_failuresAhead 14 = .ok (.bipush 12, 2) := by decide +kernel
theorem dX2_failuresAhead_16 : decode cX2_failuresAhead 16 = .ok (.if_icmp .gt 30, 3) := by decide +kernel
theorem dX2_failuresAhead_19 : decode cX2_failuresAhead 19 = .ok (.aload_n 0, 1) := by decide +kernel
theorem dX2_failuresAhead_20 : decode cX2_failuresAhead 20 = .ok (.getfield 19, 3) := by decide +kernel
theorem dX2_failuresAhead_23 : decode cX2_failuresAhead 23 = .ok (.iload_n 1, 1) := by decide +kernel
theorem dX2_failuresAhead_24 : decode cX2_failuresAhead 24 = .ok (.invokevirtual 139, 3) := by decide +kernel
theorem dX2_failuresAhead_27 : decode cX2_failuresAhead 27 = .ok (.ifCond .eq 5, 3) := by decide +kernel
theorem dX2_failuresAhead_30 : decode cX2_failuresAhead 30 = .ok (.iload_n 2, 1) := by decide +kernel
theorem dX2_failuresAhead_31 : decode cX2_failuresAhead 31 = .ok (.ireturn, 1) := by decide +kernel
theorem dX2_failuresAhead_32 : decode cX2_failuresAhead 32 = .ok (.aload_n 0, 1) := by decide +kernel
theorem dX2_failuresAhead_33 : decode cX2_failuresAhead 33 = .ok (.getfield 19, 3) := by decide +kernel
theorem dX2_failuresAhead_36 : decode cX2_failuresAhead 36 = .ok (.iload_n 1, 1) := by decide +kernel
theorem dX2_failuresAhead_37 : decode cX2_failuresAhead 37 = .ok (.invokevirtual 226, 3) := by decide +kernel
theorem dX2_failuresAhead_40 : decode cX2_failuresAhead 40 = .ok (.iinc 2 1, 3) := by decide +kernel
theorem dX2_failuresAhead_43 : decode cX2_failuresAhead 43 = .ok (.goto (-30), 3) := by decide +kernel
theorem dX2_failuresAhead_46 : decode cX2_failuresAhead 46 = .ok (.bipush (-9), 2) := by decide +kernel
theorem dX2_failuresAhead_48 : decode cX2_failuresAhead 48 = .ok (.ireturn, 1) := by decide +kernel
set_option maxRecDepth 20000 in
theorem ggX2_eveningHarm_X0_copyFrom : GoodIn wsX2_eveningHarm wsX0_copyFrom := goodIn_r _ [9, 10, 11, 12, 13, 14, 15, 16, 17, 18, 19, 20, 21, 22, 23, 24, 25, 81, 82, 83, 84, 85, 86, 87, 88, 89, 90, 91, 92] (by decide +kernel) (by decide +kernel)
set_option maxRecDepth 20000 in
theorem gX2_eveningHarm_X0_copyFrom : GoodIn wsX2_eveningHarm (wsV RX2 152 RX0 yX0_copyFrom wsX0_copyFrom) := goodIn_app (goodIn_of _ (by decide +kernel)) ggX2_eveningHarm_X0_copyFrom
set_option maxRecDepth 20000 in
theorem ggX2_eveningHarm_X2_draw : GoodIn wsX2_eveningHarm wsX2_draw := goodIn_r _ [30, 31, 32, 33, 34, 69, 70, 71, 72, 73, 74, 75, 76, 77, 78, 79, 80] (by decide +kernel) (by decide +kernel)
set_option maxRecDepth 20000 in
theorem gX2_eveningHarm_X2_draw : GoodIn wsX2_eveningHarm (wsV RX2 253 RX2 yX2_draw wsX2_draw) := goodIn_app (goodIn_of _ (by decide +kernel)) ggX2_eveningHarm_X2_draw
set_option maxRecDepth 20000 in
theorem ggX2_eveningHarm_X0_isOff : GoodIn wsX2_eveningHarm wsX0_isOff := goodIn_r _ [38, 19, 16, 81, 82, 83, 84, 85, 86, 87, 88, 89, 90, 91, 92] (by decide +kernel) (by decide +kernel)
set_option maxRecDepth 20000 in
theorem gX2_eveningHarm_X0_isOff : GoodIn wsX2_eveningHarm (wsV RX2 142 RX0 yX0_isOff wsX0_isOff) := goodIn_app (goodIn_of _ (by decide +kernel)) ggX2_eveningHarm_X0_isOff
set_option maxRecDepth 20000 in
theorem ggX2_eveningHarm_X0_attempt : GoodIn wsX2_eveningHarm wsX0_attempt := goodIn_r _ [42, 19, 43, 44, 45, 8, 46, 10, 15, 20, 23, 17, 18, 47, 36, 37, 38, 16, 48, 29, 49, 50, 51, 52, 53, 21, 54, 55, 56, 57, 58, 59, 60, 61, 62, 63, 64, 65, 66, 67, 68, 25, 24, 22, 81, 82, 83, 84, 85, 86, 87, 88, 89, 90, 91, 92] (by decide +kernel) (by decide +kernel)
set_option maxRecDepth 20000 in
theorem gX2_eveningHarm_X0_attempt : GoodIn wsX2_eveningHarm (wsV RX2 129 RX0 yX0_attempt wsX0_attempt) := goodIn_app (goodIn_of _ (by decide +kernel)) ggX2_eveningHarm_X0_attempt
theorem dX2_eveningHarm_0 : decode cX2_eveningHarm 0 = .ok (.aload_n 0, 1) := by decide +kernel
theorem dX2_eveningHarm_1 : decode cX2_eveningHarm 1 = .ok (.getfield 19, 3) := by decide +kernel
theorem dX2_eveningHarm_4 : decode cX2_eveningHarm 4 = .ok (.aload_n 0, 1) := by decide +kernel
theorem dX2_eveningHarm_5 : decode cX2_eveningHarm 5 = .ok (.getfield 10, 3) := by decide +kernel
theorem dX2_eveningHarm_8 : decode cX2_eveningHarm 8 = .ok (.invokevirtual 152, 3) := by decide +kernel
theorem dX2_eveningHarm_11 : decode cX2_eveningHarm 11 = .ok (.aload_n 0, 1) := by decide +kernel
theorem dX2_eveningHarm_12 : decode cX2_eveningHarm 12 = .ok (.getfield 19, 3) := by decide +kernel
theorem dX2_eveningHarm_15 : decode cX2_eveningHarm 15 = .ok (.iconst 0, 1) := by decide +kernel
theorem dX2_eveningHarm_16 : decode cX2_eveningHarm 16 = .ok (.putfield 238, 3) := by decide +kernel
theorem dX2_eveningHarm_19 : decode cX2_eveningHarm 19 = .ok (.aload_n 0, 1) := by decide +kernel
theorem dX2_eveningHarm_20 : decode cX2_eveningHarm 20 = .ok (.getfield 19, 3) := by decide +kernel
theorem dX2_eveningHarm_23 : decode cX2_eveningHarm 23 = .ok (.aload_n 0, 1) := by decide +kernel
theorem dX2_eveningHarm_24 : decode cX2_eveningHarm 24 = .ok (.bipush 31, 2) := by decide +kernel
theorem dX2_eveningHarm_26 : decode cX2_eveningHarm 26 = .ok (.invokevirtual 253, 3) := by decide +kernel
theorem dX2_eveningHarm_29 : decode cX2_eveningHarm 29 = .ok (.putfield 214, 3) := by decide +kernel
theorem dX2_eveningHarm_32 : decode cX2_eveningHarm 32 = .ok (.iconst 0, 1) := by decide +kernel
theorem dX2_eveningHarm_33 : decode cX2_eveningHarm 33 = .ok (.istore_n 1, 1) := by decide +kernel
theorem dX2_eveningHarm_34 : decode cX2_eveningHarm 34 = .ok (.iload_n 1, 1) := by decide +kernel
theorem dX2_eveningHarm_35 : decode cX2_eveningHarm 35 = .ok (.bipush 12, 2) := by decide +kernel
theorem dX2_eveningHarm_37 : decode cX2_eveningHarm 37 = .ok (.if_icmp .ge 33, 3) := by decide +kernel
theorem dX2_eveningHarm_40 : decode cX2_eveningHarm 40 = .ok (.aload_n 0, 1) := by decide +kernel
theorem dX2_eveningHarm_41 : decode cX2_eveningHarm 41 = .ok (.getfield 19, 3) := by decide +kernel
theorem dX2_eveningHarm_44 : decode cX2_eveningHarm 44 = .ok (.invokevirtual 142, 3) := by decide +kernel
theorem dX2_eveningHarm_47 : decode cX2_eveningHarm 47 = .ok (.ifCond .ne 23, 3) := by decide +kernel
theorem dX2_eveningHarm_50 : decode cX2_eveningHarm 50 = .ok (.aload_n 0, 1) := by decide +kernel
theorem dX2_eveningHarm_51 : decode cX2_eveningHarm 51 = .ok (.getfield 19, 3) := by decide +kernel
theorem dX2_eveningHarm_54 : decode cX2_eveningHarm 54 = .ok (.aload_n 0, 1) := by decide +kernel
theorem dX2_eveningHarm_55 : decode cX2_eveningHarm 55 = .ok (.bipush 6, 2) := by decide +kernel
theorem dX2_eveningHarm_57 : decode cX2_eveningHarm 57 = .ok (.invokevirtual 253, 3) := by decide +kernel
theorem dX2_eveningHarm_60 : decode cX2_eveningHarm 60 = .ok (.invokevirtual 129, 3) := by decide +kernel
theorem dX2_eveningHarm_63 : decode cX2_eveningHarm 63 = .ok (.pop, 1) := by decide +kernel
theorem dX2_eveningHarm_64 : decode cX2_eveningHarm 64 = .ok (.iinc 1 1, 3) := by decide +kernel
theorem dX2_eveningHarm_67 : decode cX2_eveningHarm 67 = .ok (.goto (-33), 3) := by decide +kernel
theorem dX2_eveningHarm_70 : decode cX2_eveningHarm 70 = .ok (.aload_n 0, 1) := by decide +kernel
theorem dX2_eveningHarm_71 : decode cX2_eveningHarm 71 = .ok (.getfield 19, 3) := by decide +kernel
theorem dX2_eveningHarm_74 : decode cX2_eveningHarm 74 = .ok (.getfield 238, 3) := by decide +kernel
theorem dX2_eveningHarm_77 : decode cX2_eveningHarm 77 = .ok (.ireturn, 1) := by decide +kernel
theorem dX2_draw_0 : decode cX2_draw 0 = .ok (.aload_n 0, 1) := by decide +kernel
theorem dX2_draw_1 : decode cX2_draw 1 = .ok (.aload_n 0, 1) := by decide +kernel
theorem dX2_draw_2 : decode cX2_draw 2 = .ok (.getfield 53, 3) := by decide +kernel
theorem dX2_draw_5 : decode cX2_draw 5 = .ok (.ldc_w 256, 3) := by decide +kernel
theorem dX2_draw_8 : decode cX2_draw 8 = .ok (.imul, 1) := by decide +kernel
theorem dX2_draw_9 : decode cX2_draw 9 = .ok (.ldc_w 257, 3) := by decide +kernel
theorem dX2_draw_12 : decode cX2_draw 12 = .ok (.iadd, 1) := by decide +kernel
theorem dX2_draw_13 : decode cX2_draw 13 = .ok (.putfield 53, 3) := by decide +kernel
theorem dX2_draw_16 : decode cX2_draw 16 = .ok (.iload_n 1, 1) := by decide +kernel
theorem dX2_draw_17 : decode cX2_draw 17 = .ok (.ifCond .le 20, 3) := by decide +kernel
theorem dX2_draw_20 : decode cX2_draw 20 = .ok (.aload_n 0, 1) := by decide +kernel
theorem dX2_draw_21 : decode cX2_draw 21 = .ok (.getfield 53, 3) := by decide +kernel
theorem dX2_draw_24 : decode cX2_draw 24 = .ok (.ldc_w 258, 3) := by decide +kernel
theorem dX2_draw_27 : decode cX2_draw 27 = .ok (.iand, 1) := by decide +kernel
theorem dX2_draw_28 : decode cX2_draw 28 = .ok (.sipush 256, 3) := by decide +kernel
theorem dX2_draw_31 : decode cX2_draw 31 = .ok (.idiv, 1) := by decide +kernel
theorem dX2_draw_32 : decode cX2_draw 32 = .ok (.iload_n 1, 1) := by decide +kernel
theorem dX2_draw_33 : decode cX2_draw 33 = .ok (.irem, 1) := by decide +kernel
theorem dX2_draw_34 : decode cX2_draw 34 = .ok (.goto 4, 3) := by decide +kernel
theorem dX2_draw_37 : decode cX2_draw 37 = .ok (.iconst 0, 1) := by decide +kernel
theorem dX2_draw_38 : decode cX2_draw 38 = .ok (.ireturn, 1) := by decide +kernel
set_option maxRecDepth 20000 in
theorem ggX2_letterAt_X2_at : GoodIn wsX2_letterAt wsX2_at := goodIn_r _ [6] (by decide +kernel) (by decide +kernel)
set_option maxRecDepth 20000 in
theorem gX2_letterAt_X2_at : GoodIn wsX2_letterAt (va_wsS RX2 77 yX2_at wsX2_at) := goodIn_app (goodIn_of _ (by decide +kernel)) ggX2_letterAt_X2_at
theorem dX2_letterAt_0 : decode cX2_letterAt 0 = .ok (.iload_n 1, 1) := by decide +kernel
theorem dX2_letterAt_1 : decode cX2_letterAt 1 = .ok (.aload_n 0, 1) := by decide +kernel
theorem dX2_letterAt_2 : decode cX2_letterAt 2 = .ok (.getfield 42, 3) := by decide +kernel
theorem dX2_letterAt_5 : decode cX2_letterAt 5 = .ok (.if_icmp .ge 14, 3) := by decide +kernel
theorem dX2_letterAt_8 : decode cX2_letterAt 8 = .ok (.aload_n 0, 1) := by decide +kernel
theorem dX2_letterAt_9 : decode cX2_letterAt 9 = .ok (.getfield 29, 3) := by decide +kernel
theorem dX2_letterAt_12 : decode cX2_letterAt 12 = .ok (.iload_n 1, 1) := by decide +kernel
theorem dX2_letterAt_13 : decode cX2_letterAt 13 = .ok (.invokestatic 77, 3) := by decide +kernel
theorem dX2_letterAt_16 : decode cX2_letterAt 16 = .ok (.goto 4, 3) := by decide +kernel
theorem dX2_letterAt_19 : decode cX2_letterAt 19 = .ok (.iconst (-1), 1) := by decide +kernel
theorem dX2_letterAt_20 : decode cX2_letterAt 20 = .ok (.ireturn, 1) := by decide +kernel
set_option maxRecDepth 20000 in
theorem ggX2_formFault_X2_letterAt : GoodIn wsX2_formFault wsX2_letterAt := goodIn_r _ [6, 1, 7, 8, 9, 5, 10, 20, 21, 22, 23, 24, 25, 26, 27, 28, 29, 30, 31] (by decide +kernel) (by decide +kernel)
set_option maxRecDepth 20000 in
theorem gX2_formFault_X2_letterAt : GoodIn wsX2_formFault (wsV RX2 259 RX2 yX2_letterAt wsX2_letterAt) := goodIn_app (goodIn_of _ (by decide +kernel)) ggX2_formFault_X2_letterAt
set_option maxRecDepth 20000 in
theorem ggX2_formFault_X2_statementLength : GoodIn wsX2_formFault wsX2_statementLength := goodIn_r _ [13] (by decide +kernel) (by decide +kernel)
set_option maxRecDepth 20000 in
theorem gX2_formFault_X2_statementLength : GoodIn wsX2_formFault (va_wsS RX2 262 yX2_statementLength wsX2_statementLength) := goodIn_app (goodIn_of _ (by decide +kernel)) ggX2_formFault_X2_statementLength
set_option maxRecDepth 20000 in
theorem ggX2_formFault_X2_fits : GoodIn wsX2_formFault wsX2_fits := goodIn_r _ [16, 17, 18, 5, 19] (by decide +kernel) (by decide +kernel)
set_option maxRecDepth 20000 in
theorem gX2_formFault_X2_fits : GoodIn wsX2_formFault (va_wsS RX2 265 yX2_fits wsX2_fits) := goodIn_app (goodIn_of _ (by decide +kernel)) ggX2_formFault_X2_fits
theorem dX2_formFault_0 : decode cX2_formFault 0 = .ok (.aload_n 0, 1) := by decide +kernel
theorem dX2_formFault_1 : decode cX2_formFault 1 = .ok (.getfield 42, 3) := by decide +kernel
theorem dX2_formFault_4 : decode cX2_formFault 4 = .ok (.ifCond .ne 5, 3) := by decide +kernel
theorem dX2_formFault_7 : decode cX2_formFault 7 = .ok (.iconst 0, 1) := by decide +kernel
theorem dX2_formFault_8 : decode cX2_formFault 8 = .ok (.ireturn, 1) := by decide +kernel
theorem dX2_formFault_9 : decode cX2_formFault 9 = .ok (.iconst 0, 1) := by decide +kernel
theorem dX2_formFault_10 : decode cX2_formFault 10 = .ok (.istore_n 1, 1) := by decide +kernel
theorem dX2_formFault_11 : decode cX2_formFault 11 = .ok (.iconst 0, 1) := by decide +kernel
theorem dX2_formFault_12 : decode cX2_formFault 12 = .ok (.istore_n 2, 1) := by decide +kernel
theorem dX2_formFault_13 : decode cX2_formFault 13 = .ok (.iload_n 2, 1) := by decide +kernel
theorem dX2_formFault_14 : decode cX2_formFault 14 = .ok (.bipush 96, 2) := by decide +kernel
theorem dX2_formFault_16 : decode cX2_formFault 16 = .ok (.if_icmp .ge 81, 3) := by decide +kernel
theorem dX2_formFault_19 : decode cX2_formFault 19 = .ok (.iload_n 1, 1) := by decide +kernel
theorem dX2_formFault_20 : decode cX2_formFault 20 = .ok (.aload_n 0, 1) := by decide +kernel
theorem dX2_formFault_21 : decode cX2_formFault 21 = .ok (.getfield 42, 3) := by decide +kernel
theorem dX2_formFault_24 : decode cX2_formFault 24 = .ok (.if_icmp .ge 73, 3) := by decide +kernel
theorem dX2_formFault_27 : decode cX2_formFault 27 = .ok (.aload_n 0, 1) := by decide +kernel
theorem dX2_formFault_28 : decode cX2_formFault 28 = .ok (.iload_n 1, 1) := by decide +kernel
theorem dX2_formFault_29 : decode cX2_formFault 29 = .ok (.invokevirtual 259, 3) := by decide +kernel
theorem dX2_formFault_32 : decode cX2_formFault 32 = .ok (.istore_n 3, 1) := by decide +kernel
theorem dX2_formFault_33 : decode cX2_formFault 33 = .ok (.iload_n 3, 1) := by decide +kernel
theorem dX2_formFault_34 : decode cX2_formFault 34 = .ok (.invokestatic 262, 3) := by decide +kernel
theorem dX2_formFault_37 : decode cX2_formFault 37 = .ok (.istore 4, 2) := by decide +kernel
theorem dX2_formFault_39 : decode cX2_formFault 39 = .ok (.iload 4, 2) := by decide +kernel
theorem dX2_formFault_41 : decode cX2_formFault 41 = .ok (.ifCond .ne 5, 3) := by decide +kernel
theorem dX2_formFault_44 : decode cX2_formFault 44 = .ok (.iload_n 1, 1) := by decide +kernel
theorem dX2_formFault_45 : decode cX2_formFault 45 = .ok (.ireturn, 1) := by decide +kernel
theorem dX2_formFault_46 : decode cX2_formFault 46 = .ok (.iconst 1, 1) := by decide +kernel
theorem dX2_formFault_47 : decode cX2_formFault 47 = .ok (.istore 5, 2) := by decide +kernel
theorem dX2_formFault_49 : decode cX2_formFault 49 = .ok (.iload 5, 2) := by decide +kernel
theorem dX2_formFault_51 : decode cX2_formFault 51 = .ok (.iload 4, 2) := by decide +kernel
theorem dX2_formFault_53 : decode cX2_formFault 53 = .ok (.if_icmp .ge 33, 3) := by decide +kernel
theorem dX2_formFault_56 : decode cX2_formFault 56 = .ok (.iload_n 3, 1) := by decide +kernel
theorem dX2_formFault_57 : decode cX2_formFault 57 = .ok (.iload 5, 2) := by decide +kernel
theorem dX2_formFault_59 : decode cX2_formFault 59 = .ok (.iload 4, 2) := by decide +kernel
theorem dX2_formFault_61 : decode cX2_formFault 61 = .ok (.aload_n 0, 1) := by decide +kernel
theorem dX2_formFault_62 : decode cX2_formFault 62 = .ok (.iload_n 1, 1) := by decide +kernel
theorem dX2_formFault_63 : decode cX2_formFault 63 = .ok (.iload 5, 2) := by decide +kernel
theorem dX2_formFault_65 : decode cX2_formFault 65 = .ok (.iadd, 1) := by decide +kernel
theorem dX2_formFault_66 : decode cX2_formFault 66 = .ok (.invokevirtual 259, 3) := by decide +kernel
theorem dX2_formFault_69 : decode cX2_formFault 69 = .ok (.invokestatic 265, 3) := by decide +kernel
theorem dX2_formFault_72 : decode cX2_formFault 72 = .ok (.ifCond .ne 8, 3) := by decide +kernel
theorem dX2_formFault_75 : decode cX2_formFault 75 = .ok (.iload_n 1, 1) := by decide +kernel
theorem dX2_formFault_76 : decode cX2_formFault 76 = .ok (.iload 5, 2) := by decide +kernel
theorem dX2_formFault_78 : decode cX2_formFault 78 = .ok (.iadd, 1) := by decide +kernel
theorem dX2_formFault_79 : decode cX2_formFault 79 = .ok (.ireturn, 1) := by decide +kernel
theorem dX2_formFault_80 : decode cX2_formFault 80 = .ok (.iinc 5 1, 3) := by decide +kernel
theorem dX2_formFault_83 : decode cX2_formFault 83 = .ok (.goto (-34), 3) := by decide +kernel
theorem dX2_formFault_86 : decode cX2_formFault 86 = .ok (.iload_n 1, 1) := by decide +kernel
theorem dX2_formFault_87 : decode cX2_formFault 87 = .ok (.iload 4, 2) := by decide +kernel
theorem dX2_formFault_89 : decode cX2_formFault 89 = .ok (.iadd, 1) := by decide +kernel
theorem dX2_formFault_90 : decode cX2_formFault 90 = .ok (.istore_n 1, 1) := by decide +kernel
theorem dX2_formFault_91 : decode cX2_formFault 91 = .ok (.iinc 2 1, 3) := by decide +kernel
theorem dX2_formFault_94 : decode cX2_formFault 94 = .ok (.goto (-81), 3) := by decide +kernel
theorem dX2_formFault_97 : decode cX2_formFault 97 = .ok (.iconst (-1), 1) := by decide +kernel
theorem dX2_formFault_98 : decode cX2_formFault 98 = .ok (.ireturn, 1) := by decide +kernel
theorem dX2_statementLength_0 : decode cX2_statementLength 0 = .ok (.iload_n 0, 1) := by decide +kernel
theorem dX2_statementLength_1 : decode cX2_statementLength 1 = .ok (.tableswitch 106 99 119 #[102, 106, 106, 106, 106, 104, 106, 106, 106, 106, 106, 106, 106, 99, 106, 99, 102, 104, 106, 106, 102], 99) := by decide +kernel
theorem dX2_statementLength_100 : decode cX2_statementLength 100 = .ok (.bipush 6, 2) := by decide +kernel
theorem dX2_statementLength_102 : decode cX2_statementLength 102 = .ok (.ireturn, 1) := by decide +kernel
theorem dX2_statementLength_103 : decode cX2_statementLength 103 = .ok (.iconst 4, 1) := by decide +kernel
theorem dX2_statementLength_104 : decode cX2_statementLength 104 = .ok (.ireturn, 1) := by decide +kernel
theorem dX2_statementLength_105 : decode cX2_statementLength 105 = .ok (.iconst 3, 1) := by decide +kernel
theorem dX2_statementLength_106 : decode cX2_statementLength 106 = .ok (.ireturn, 1) := by decide +kernel
theorem dX2_statementLength_107 : decode cX2_statementLength 107 = .ok (.iconst 0, 1) := by decide +kernel
theorem dX2_statementLength_108 : decode cX2_statementLength 108 = .ok (.ireturn, 1) := by decide +kernel
set_option maxRecDepth 20000 in
theorem ggX2_fits_X2_kindOf : GoodIn wsX2_fits wsX2_kindOf := goodIn_r _ [4] (by decide +kernel) (by decide +kernel)
set_option maxRecDepth 20000 in
theorem gX2_fits_X2_kindOf : GoodIn wsX2_fits (va_wsS RX2 269 yX2_kindOf wsX2_kindOf) := goodIn_app (goodIn_of _ (by decide +kernel)) ggX2_fits_X2_kindOf
theorem dX2_fits_0 : decode cX2_fits 0 = .ok (.iload_n 1, 1) := by decide +kernel
theorem dX2_fits_1 : decode cX2_fits 1 = .ok (.iload_n 2, 1) := by decide +kernel
theorem dX2_fits_2 : decode cX2_fits 2 = .ok (.iconst 1, 1) := by decide +kernel
theorem dX2_fits_3 : decode cX2_fits 3 = .ok (.isub, 1) := by decide +kernel
theorem dX2_fits_4 : decode cX2_fits 4 = .ok (.if_icmp .ne 15, 3) := by decide +kernel
theorem dX2_fits_7 : decode cX2_fits 7 = .ok (.iload_n 3, 1) := by decide +kernel
theorem dX2_fits_8 : decode cX2_fits 8 = .ok (.bipush 59, 2) := by decide +kernel
theorem dX2_fits_10 : decode cX2_fits 10 = .ok (.if_icmp .ne 7, 3) := by decide +kernel
theorem dX2_fits_13 : decode cX2_fits 13 = .ok (.iconst 1, 1) := by decide +kernel
theorem dX2_fits_14 : decode cX2_fits 14 = .ok (.goto 4, 3) := by decide +kernel
theorem dX2_fits_17 : decode cX2_fits 17 = .ok (.iconst 0, 1) := by decide +kernel
theorem dX2_fits_18 : decode cX2_fits 18 = .ok (.ireturn, 1) := by decide +kernel
theorem dX2_fits_19 : decode cX2_fits 19 = .ok (.iload_n 0, 1) := by decide +kernel
theorem dX2_fits_20 : decode cX2_fits 20 = .ok (.bipush 112, 2) := by decide +kernel
theorem dX2_fits_22 : decode cX2_fits 22 = .ok (.if_icmp .ne 21, 3) := by decide +kernel
theorem dX2_fits_25 : decode cX2_fits 25 = .ok (.iload_n 1, 1) := by decide +kernel
theorem dX2_fits_26 : decode cX2_fits 26 = .ok (.iconst 1, 1) := by decide +kernel
theorem dX2_fits_27 : decode cX2_fits 27 = .ok (.if_icmp .ne 16, 3) := by decide +kernel
theorem dX2_fits_30 : decode cX2_fits 30 = .ok (.iload_n 3, 1) := by decide +kernel
theorem dX2_fits_31 : decode cX2_fits 31 = .ok (.invokestatic 269, 3) := by decide +kernel
theorem dX2_fits_34 : decode cX2_fits 34 = .ok (.ifCond .lt 7, 3) := by decide +kernel
theorem dX2_fits_37 : decode cX2_fits 37 = .ok (.iconst 1, 1) := by decide +kernel
theorem dX2_fits_38 : decode cX2_fits 38 = .ok (.goto 4, 3) := by decide +kernel
theorem dX2_fits_41 : decode cX2_fits 41 = .ok (.iconst 0, 1) := by decide +kernel
theorem dX2_fits_42 : decode cX2_fits 42 = .ok (.ireturn, 1) := by decide +kernel
theorem dX2_fits_43 : decode cX2_fits 43 = .ok (.iload_n 3, 1) := by decide +kernel
theorem dX2_fits_44 : decode cX2_fits 44 = .ok (.bipush 48, 2) := by decide +kernel
theorem dX2_fits_46 : decode cX2_fits 46 = .ok (.if_icmp .lt 13, 3) := by decide +kernel
theorem dX2_fits_49 : decode cX2_fits 49 = .ok (.iload_n 3, 1) := by decide +kernel
theorem dX2_fits_50 : decode cX2_fits 50 = .ok (.bipush 57, 2) := by decide +kernel
theorem dX2_fits_52 : decode cX2_fits 52 = .ok (.if_icmp .gt 7, 3) := by decide +kernel
theorem dX2_fits_55 : decode cX2_fits 55 = .ok (.iconst 1, 1) := by decide +kernel
theorem dX2_fits_56 : decode cX2_fits 56 = .ok (.goto 4, 3) := by decide +kernel
theorem dX2_fits_59 : decode cX2_fits 59 = .ok (.iconst 0, 1) := by decide +kernel
theorem dX2_fits_60 : decode cX2_fits 60 = .ok (.ireturn, 1) := by decide +kernel
theorem dX2_kindOf_0 : decode cX2_kindOf 0 = .ok (.iload_n 0, 1) := by decide +kernel
theorem dX2_kindOf_1 : decode cX2_kindOf 1 = .ok (.tableswitch 71 106 116 #[67, 61, 71, 71, 71, 71, 59, 71, 65, 63, 69], 59) := by decide +kernel
theorem dX2_kindOf_60 : decode cX2_kindOf 60 = .ok (.iconst 0, 1) := by decide +kernel
theorem dX2_kindOf_61 : decode cX2_kindOf 61 = .ok (.ireturn, 1) := by decide +kernel
theorem dX2_kindOf_62 : decode cX2_kindOf 62 = .ok (.iconst 1, 1) := by decide +kernel
theorem dX2_kindOf_63 : decode cX2_kindOf 63 = .ok (.ireturn, 1) := by decide +kernel
theorem dX2_kindOf_64 : decode cX2_kindOf 64 = .ok (.iconst 2, 1) := by decide +kernel
theorem dX2_kindOf_65 : decode cX2_kindOf 65 = .ok (.ireturn, 1) := by decide +kernel
theorem dX2_kindOf_66 : decode cX2_kindOf 66 = .ok (.iconst 3, 1) := by decide +kernel
theorem dX2_kindOf_67 : decode cX2_kindOf 67 = .ok (.ireturn, 1) := by decide +kernel
theorem dX2_kindOf_68 : decode cX2_kindOf 68 = .ok (.iconst 4, 1) := by decide +kernel
theorem dX2_kindOf_69 : decode cX2_kindOf 69 = .ok (.ireturn, 1) := by decide +kernel
theorem dX2_kindOf_70 : decode cX2_kindOf 70 = .ok (.iconst 5, 1) := by decide +kernel
theorem dX2_kindOf_71 : decode cX2_kindOf 71 = .ok (.ireturn, 1) := by decide +kernel
theorem dX2_kindOf_72 : decode cX2_kindOf 72 = .ok (.iconst (-1), 1) := by decide +kernel
theorem dX2_kindOf_73 : decode cX2_kindOf 73 = .ok (.ireturn, 1) := by decide +kernel
set_option maxRecDepth 20000 in
theorem ggX2_takeStatements_X0_copyFrom : GoodIn wsX2_takeStatements wsX0_copyFrom := goodIn_r _ [8, 9, 10, 11, 12, 13, 14, 15, 16, 17, 18, 19, 20, 21, 22, 23, 24, 124, 125, 126, 127, 128, 129, 130, 131, 132, 133, 134, 135] (by decide +kernel) (by decide +kernel)
set_option maxRecDepth 20000 in
theorem gX2_takeStatements_X0_copyFrom : GoodIn wsX2_takeStatements (wsV RX2 152 RX0 yX0_copyFrom wsX0_copyFrom) := goodIn_app (goodIn_of _ (by decide +kernel)) ggX2_takeStatements_X0_copyFrom
set_option maxRecDepth 20000 in
theorem ggX2_takeStatements_X2_takeStatement : GoodIn wsX2_takeStatements wsX2_takeStatement := goodIn_r _ [29, 1, 30, 31, 32, 28, 33, 3, 34, 35, 36, 37, 38, 39, 40, 41, 42, 43, 44, 45, 46, 47, 7, 48, 15, 9, 14, 49, 50, 51, 52, 18, 53, 54, 55, 56, 57, 58, 59, 60, 61, 62, 16, 17, 19, 20, 22, 63, 64, 65, 66, 67, 68, 69, 70, 71, 72, 23, 73, 74, 75, 76, 77, 78, 79, 80, 81, 82, 83, 84, 85, 86, 87, 88, 89, 90, 91, 92, 93, 94, 95, 96, 97, 98, 99, 24, 21, 100, 101, 102, 103, 104, 105, 106, 107, 108, 112, 113, 114, 115, 116, 117, 118, 119, 120, 121, 122, 123, 124, 125, 126, 127, 128, 129, 130, 131, 132, 133, 134, 135] (by decide +kernel) (by decide +kernel)
set_option maxRecDepth 20000 in
theorem gX2_takeStatements_X2_takeStatement : GoodIn wsX2_takeStatements (wsV RX2 272 RX2 yX2_takeStatement wsX2_takeStatement) := goodIn_app (goodIn_of _ (by decide +kernel)) ggX2_takeStatements_X2_takeStatement
set_option maxRecDepth 20000 in
theorem ggX2_takeStatements_X2_letterAt : GoodIn wsX2_takeStatements wsX2_letterAt := goodIn_r _ [33, 3, 34, 35, 36, 28, 37, 112, 113, 114, 115, 116, 117, 118, 119, 120, 121, 122, 123] (by decide +kernel) (by decide +kernel)
set_option maxRecDepth 20000 in
theorem gX2_takeStatements_X2_letterAt : GoodIn wsX2_takeStatements (wsV RX2 259 RX2 yX2_letterAt wsX2_letterAt) := goodIn_app (goodIn_of _ (by decide +kernel)) ggX2_takeStatements_X2_letterAt
set_option maxRecDepth 20000 in
theorem ggX2_takeStatements_X2_statementLength : GoodIn wsX2_takeStatements wsX2_statementLength := goodIn_r _ [111] (by decide +kernel) (by decide +kernel)
set_option maxRecDepth 20000 in
theorem gX2_takeStatements_X2_statementLength : GoodIn wsX2_takeStatements (va_wsS RX2 262 yX2_statementLength wsX2_statementLength) := goodIn_app (goodIn_of _ (by decide +kernel)) ggX2_takeStatements_X2_statementLength
theorem dX2_takeStatements_0 : decode cX2_takeStatements 0 = .ok (.aload_n 0, 1) := by decide +kernel
theorem dX2_takeStatements_1 : decode cX2_takeStatements 1 = .ok (.getfield 19, 3) := by decide +kernel
theorem dX2_takeStatements_4 : decode cX2_takeStatements 4 = .ok (.aload_n 0, 1) := by decide +kernel
theorem dX2_takeStatements_5 : decode cX2_takeStatements 5 = .ok (.getfield 10, 3) := by decide +kernel
theorem dX2_takeStatements_8 : decode cX2_takeStatements 8 = .ok (.invokevirtual 152, 3) := by decide +kernel
theorem dX2_takeStatements_11 : decode cX2_takeStatements 11 = .ok (.iconst 0, 1) := by decide +kernel
theorem dX2_takeStatements_12 : decode cX2_takeStatements 12 = .ok (.istore_n 1, 1) := by decide +kernel
theorem dX2_takeStatements_13 : decode cX2_takeStatements 13 = .ok (.iconst 0, 1) := by decide +kernel
theorem dX2_takeStatements_14 : decode cX2_takeStatements 14 = .ok (.istore_n 2, 1) := by decide +kernel
theorem dX2_takeStatements_15 : decode cX2_takeStatements 15 = .ok (.iconst 0, 1) := by decide +kernel
theorem dX2_takeStatements_16 : decode cX2_takeStatements 16 = .ok (.istore_n 3, 1) := by decide +kernel
theorem dX2_takeStatements_17 : decode cX2_takeStatements 17 = .ok (.iload_n 3, 1) := by decide +kernel
theorem dX2_takeStatements_18 : decode cX2_takeStatements 18 = .ok (.bipush 96, 2) := by decide +kernel
theorem dX2_takeStatements_20 : decode cX2_takeStatements 20 = .ok (.if_icmp .ge 45, 3) := by decide +kernel
theorem dX2_takeStatements_23 : decode cX2_takeStatements 23 = .ok (.iload_n 2, 1) := by decide +kernel
theorem dX2_takeStatements_24 : decode cX2_takeStatements 24 = .ok (.aload_n 0, 1) := by decide +kernel
theorem dX2_takeStatements_25 : decode cX2_takeStatements 25 = .ok (.getfield 42, 3) := by decide +kernel
theorem dX2_takeStatements_28 : decode cX2_takeStatements 28 = .ok (.if_icmp .ge 37, 3) := by decide +kernel
theorem dX2_takeStatements_31 : decode cX2_takeStatements 31 = .ok (.aload_n 0, 1) := by decide +kernel
theorem dX2_takeStatements_32 : decode cX2_takeStatements 32 = .ok (.iload_n 2, 1) := by decide +kernel
theorem dX2_takeStatements_33 : decode cX2_takeStatements 33 = .ok (.invokevirtual 272, 3) := by decide +kernel
theorem dX2_takeStatements_36 : decode cX2_takeStatements 36 = .ok (.ifCond .ne 9, 3) := by decide +kernel
theorem dX2_takeStatements_39 : decode cX2_takeStatements 39 = .ok (.sipush (-2000), 3) := by decide +kernel
theorem dX2_takeStatements_42 : decode cX2_takeStatements 42 = .ok (.iload_n 2, 1) := by decide +kernel
theorem dX2_takeStatements_43 : decode cX2_takeStatements 43 = .ok (.isub, 1) := by decide +kernel
theorem dX2_takeStatements_44 : decode cX2_takeStatements 44 = .ok (.ireturn, 1) := by decide +kernel
theorem dX2_takeStatements_45 : decode cX2_takeStatements 45 = .ok (.iinc 1 1, 3) := by decide +kernel
theorem dX2_takeStatements_48 : decode cX2_takeStatements 48 = .ok (.iload_n 2, 1) := by decide +kernel
theorem dX2_takeStatements_49 : decode cX2_takeStatements 49 = .ok (.aload_n 0, 1) := by decide +kernel
theorem dX2_takeStatements_50 : decode cX2_takeStatements 50 = .ok (.iload_n 2, 1) := by decide +kernel
theorem dX2_takeStatements_51 : decode cX2_takeStatements 51 = .ok (.invokevirtual 259, 3) := by decide +kernel
theorem dX2_takeStatements_54 : decode cX2_takeStatements 54 = .ok (.invokestatic 262, 3) := by decide +kernel
theorem dX2_takeStatements_57 : decode cX2_takeStatements 57 = .ok (.iadd, 1) := by decide +kernel
theorem dX2_takeStatements_58 : decode cX2_takeStatements 58 = .ok (.istore_n 2, 1) := by decide +kernel
theorem dX2_takeStatements_59 : decode cX2_takeStatements 59 = .ok (.iinc 3 1, 3) := by decide +kernel
theorem dX2_takeStatements_62 : decode cX2_takeStatements 62 = .ok (.goto (-45), 3) := by decide +kernel
theorem dX2_takeStatements_65 : decode cX2_takeStatements 65 = .ok (.aload_n 0, 1) := by decide +kernel
theorem dX2_takeStatements_66 : decode cX2_takeStatements 66 = .ok (.getfield 10, 3) := by decide +kernel
theorem dX2_takeStatements_69 : decode cX2_takeStatements 69 = .ok (.aload_n 0, 1) := by decide +kernel
theorem dX2_takeStatements_70 : decode cX2_takeStatements 70 = .ok (.getfield 19, 3) := by decide +kernel
theorem dX2_takeStatements_73 : decode cX2_takeStatements 73 = .ok (.invokevirtual 152, 3) := by decide +kernel
theorem dX2_takeStatements_76 : decode cX2_takeStatements 76 = .ok (.iload_n 1, 1) := by decide +kernel
theorem dX2_takeStatements_77 : decode cX2_takeStatements 77 = .ok (.ireturn, 1) := by decide +kernel
set_option maxRecDepth 20000 in
theorem ggX2_takeStatement_X2_letterAt : GoodIn wsX2_takeStatement wsX2_letterAt := goodIn_r _ [6, 7, 8, 9, 10, 5, 11, 96, 97, 98, 99, 100, 101, 102, 103, 104, 105, 106, 107] (by decide +kernel) (by decide +kernel)
set_option maxRecDepth 20000 in
theorem gX2_takeStatement_X2_letterAt : GoodIn wsX2_takeStatement (wsV RX2 259 RX2 yX2_letterAt wsX2_letterAt) := goodIn_app (goodIn_of _ (by decide +kernel)) ggX2_takeStatement_X2_letterAt
set_option maxRecDepth 20000 in
theorem ggX2_takeStatement_X2_kindOf : GoodIn wsX2_takeStatement wsX2_kindOf := goodIn_r _ [14] (by decide +kernel) (by decide +kernel)
set_option maxRecDepth 20000 in
theorem gX2_takeStatement_X2_kindOf : GoodIn wsX2_takeStatement (va_wsS RX2 269 yX2_kindOf wsX2_kindOf) := goodIn_app (goodIn_of _ (by decide +kernel)) ggX2_takeStatement_X2_kindOf
set_option maxRecDepth 20000 in
theorem ggX2_takeStatement_X2_numberAt : GoodIn wsX2_takeStatement wsX2_numberAt := goodIn_r _ [18, 2, 3, 4, 5, 6, 7, 8, 9, 10, 11, 96, 97, 98, 99, 100, 101, 102, 103, 104, 105, 106, 107] (by decide +kernel) (by decide +kernel)
set_option maxRecDepth 20000 in
theorem gX2_takeStatement_X2_numberAt : GoodIn wsX2_takeStatement (wsV RX2 275 RX2 yX2_numberAt wsX2_numberAt) := goodIn_app (goodIn_of _ (by decide +kernel)) ggX2_takeStatement_X2_numberAt
set_option maxRecDepth 20000 in
theorem ggX2_takeStatement_X0_takePart : GoodIn wsX2_takeStatement wsX0_takePart := goodIn_r _ [23, 24, 25, 26, 27, 28, 29, 22, 30, 31, 32, 5, 33, 108, 109, 110, 111, 112, 113, 114, 115, 116, 117, 118, 119] (by decide +kernel) (by decide +kernel)
set_option maxRecDepth 20000 in
theorem gX2_takeStatement_X0_takePart : GoodIn wsX2_takeStatement (wsV RX2 278 RX0 yX0_takePart wsX0_takePart) := goodIn_app (goodIn_of _ (by decide +kernel)) ggX2_takeStatement_X0_takePart
set_option maxRecDepth 20000 in
theorem ggX2_takeStatement_X0_takeSetting : GoodIn wsX2_takeStatement wsX0_takeSetting := goodIn_r _ [37, 10, 5, 11, 38, 39, 40, 22, 41, 42, 43, 44, 45, 46, 108, 109, 110, 111, 112, 113, 114, 115, 116, 117, 118, 119] (by decide +kernel) (by decide +kernel)
set_option maxRecDepth 20000 in
theorem gX2_takeStatement_X0_takeSetting : GoodIn wsX2_takeStatement (wsV RX2 282 RX0 yX0_takeSetting wsX0_takeSetting) := goodIn_app (goodIn_of _ (by decide +kernel)) ggX2_takeStatement_X0_takeSetting
set_option maxRecDepth 20000 in
theorem ggX2_takeStatement_X0_takeTry : GoodIn wsX2_takeStatement wsX0_takeTry := goodIn_r _ [50, 51, 5, 52, 27, 28, 29, 22, 30, 31, 24, 10, 11, 53, 54, 55, 56, 57, 58, 59, 60, 61, 62, 63, 64, 65, 25, 26, 44, 46, 42, 43, 66, 67, 68, 69, 45, 70, 71, 72, 73, 74, 75, 76, 77, 78, 79, 80, 81, 82, 83, 84, 85, 86, 108, 109, 110, 111, 112, 113, 114, 115, 116, 117, 118, 119] (by decide +kernel) (by decide +kernel)
set_option maxRecDepth 20000 in
theorem gX2_takeStatement_X0_takeTry : GoodIn wsX2_takeStatement (wsV RX2 285 RX0 yX0_takeTry wsX0_takeTry) := goodIn_app (goodIn_of _ (by decide +kernel)) ggX2_takeStatement_X0_takeTry
set_option maxRecDepth 20000 in
theorem ggX2_takeStatement_X0_takeWait : GoodIn wsX2_takeStatement wsX0_takeWait := goodIn_r _ [90, 53, 54, 55, 22, 56, 57, 91, 92, 93, 94, 44, 95, 77, 72, 78, 45, 86, 108, 109, 110, 111, 112, 113, 114, 115, 116, 117, 118, 119] (by decide +kernel) (by decide +kernel)
set_option maxRecDepth 20000 in
theorem gX2_takeStatement_X0_takeWait : GoodIn wsX2_takeStatement (wsV RX2 288 RX0 yX0_takeWait wsX0_takeWait) := goodIn_app (goodIn_of _ (by decide +kernel)) ggX2_takeStatement_X0_takeWait
theorem dX2_takeStatement_0 : decode cX2_takeStatement 0 = .ok (.aload_n 0, 1) := by decide +kernel
theorem dX2_takeStatement_1 : decode cX2_takeStatement 1 = .ok (.iload_n 1, 1) := by decide +kernel
theorem dX2_takeStatement_2 : decode cX2_takeStatement 2 = .ok (.invokevirtual 259, 3) := by decide +kernel
theorem dX2_takeStatement_5 : decode cX2_takeStatement 5 = .ok (.tableswitch 252 99 119 #[186, 252, 252, 252, 252, 203, 252, 252, 252, 252, 252, 252, 252, 99, 252, 125, 169, 220, 252, 252, 236], 99) := by decide +kernel
theorem dX2_takeStatement_104 : decode cX2_takeStatement 104 = .ok (.aload_n 0, 1) := by decide +kernel
theorem dX2_takeStatement_105 : decode cX2_takeStatement 105 = .ok (.getfield 19, 3) := by decide +kernel
theorem dX2_takeStatement_108 : decode cX2_takeStatement 108 = .ok (.aload_n 0, 1) := by decide +kernel
theorem dX2_takeStatement_109 : decode cX2_takeStatement 109 = .ok (.iload_n 1, 1) := by decide +kernel
theorem dX2_takeStatement_110 : decode cX2_takeStatement 110 = .ok (.iconst 1, 1) := by decide +kernel
theorem dX2_takeStatement_111 : decode cX2_takeStatement 111 = .ok (.iadd, 1) := by decide +kernel
theorem dX2_takeStatement_112 : decode cX2_takeStatement 112 = .ok (.invokevirtual 259, 3) := by decide +kernel
theorem dX2_takeStatement_115 : decode cX2_takeStatement 115 = .ok (.invokestatic 269, 3) := by decide +kernel
theorem dX2_takeStatement_118 : decode cX2_takeStatement 118 = .ok (.aload_n 0, 1) := by decide +kernel
theorem dX2_takeStatement_119 : decode cX2_takeStatement 119 = .ok (.iload_n 1, 1) := by decide +kernel
theorem dX2_takeStatement_120 : decode cX2_takeStatement 120 = .ok (.iconst 2, 1) := by decide +kernel
theorem dX2_takeStatement_121 : decode cX2_takeStatement 121 = .ok (.iadd, 1) := by decide +kernel
theorem dX2_takeStatement_122 : decode cX2_takeStatement 122 = .ok (.iconst 3, 1) := by decide +kernel
theorem dX2_takeStatement_123 : decode cX2_takeStatement 123 = .ok (.invokevirtual 275, 3) := by decide +kernel
theorem dX2_takeStatement_126 : decode cX2_takeStatement 126 = .ok (.invokevirtual 278, 3) := by decide +kernel
theorem dX2_takeStatement_129 : decode cX2_takeStatement 129 = .ok (.ireturn, 1) := by decide +kernel
theorem dX2_takeStatement_130 : decode cX2_takeStatement 130 = .ok (.aload_n 0, 1) := by decide +kernel
theorem dX2_takeStatement_131 : decode cX2_takeStatement 131 = .ok (.getfield 19, 3) := by decide +kernel
theorem dX2_takeStatement_134 : decode cX2_takeStatement 134 = .ok (.iconst 0, 1) := by decide +kernel
theorem dX2_takeStatement_135 : decode cX2_takeStatement 135 = .ok (.aload_n 0, 1) := by decide +kernel
theorem dX2_takeStatement_136 : decode cX2_takeStatement 136 = .ok (.iload_n 1, 1) := by decide +kernel
theorem dX2_takeStatement_137 : decode cX2_takeStatement 137 = .ok (.iconst 1, 1) := by decide +kernel
theorem dX2_takeStatement_138 : decode cX2_takeStatement 138 = .ok (.iadd, 1) := by decide +kernel
theorem dX2_takeStatement_139 : decode cX2_takeStatement 139 = .ok (.iconst 3, 1) := by decide +kernel
theorem dX2_takeStatement_140 : decode cX2_takeStatement 140 = .ok (.invokevirtual 275, 3) := by decide +kernel
theorem dX2_takeStatement_143 : decode cX2_takeStatement 143 = .ok (.invokevirtual 282, 3) := by decide +kernel
theorem dX2_takeStatement_146 : decode cX2_takeStatement 146 = .ok (.ifCond .eq 26, 3) := by decide +kernel
theorem dX2_takeStatement_149 : decode cX2_takeStatement 149 = .ok (.aload_n 0, 1) := by decide +kernel
theorem dX2_takeStatement_150 : decode cX2_takeStatement 150 = .ok (.getfield 19, 3) := by decide +kernel
theorem dX2_takeStatement_153 : decode cX2_takeStatement 153 = .ok (.iconst 1, 1) := by decide +kernel
theorem dX2_takeStatement_154 : decode cX2_takeStatement 154 = .ok (.aload_n 0, 1) := by decide +kernel
theorem dX2_takeStatement_155 : decode cX2_takeStatement 155 = .ok (.iload_n 1, 1) := by decide +kernel
theorem dX2_takeStatement_156 : decode cX2_takeStatement 156 = .ok (.iconst 4, 1) := by decide +kernel
theorem dX2_takeStatement_157 : decode cX2_takeStatement 157 = .ok (.iadd, 1) := by decide +kernel
theorem dX2_takeStatement_158 : decode cX2_takeStatement 158 = .ok (.iconst 1, 1) := by decide +kernel
theorem dX2_takeStatement_159 : decode cX2_takeStatement 159 = .ok (.invokevirtual 275, 3) := by decide +kernel
theorem dX2_takeStatement_162 : decode cX2_takeStatement 162 = .ok (.invokevirtual 282, 3) := by decide +kernel
theorem dX2_takeStatement_165 : decode cX2_takeStatement 165 = .ok (.ifCond .eq 7, 3) := by decide +kernel
theorem dX2_takeStatement_168 : decode cX2_takeStatement 168 = .ok (.iconst 1, 1) := by decide +kernel
theorem dX2_takeStatement_169 : decode cX2_takeStatement 169 = .ok (.goto 4, 3) := by decide +kernel
theorem dX2_takeStatement_172 : decode cX2_takeStatement 172 = .ok (.iconst 0, 1) := by decide +kernel
theorem dX2_takeStatement_173 : decode cX2_takeStatement 173 = .ok (.ireturn, 1) := by decide +kernel
theorem dX2_takeStatement_174 : decode cX2_takeStatement 174 = .ok (.aload_n 0, 1) := by decide +kernel
theorem dX2_takeStatement_175 : decode cX2_takeStatement 175 = .ok (.getfield 19, 3) := by decide +kernel
theorem dX2_takeStatement_178 : decode cX2_takeStatement 178 = .ok (.iconst 2, 1) := by decide +kernel
theorem dX2_takeStatement_179 : decode cX2_takeStatement 179 = .ok (.aload_n 0, 1) := by decide +kernel
theorem dX2_takeStatement_180 : decode cX2_takeStatement 180 = .ok (.iload_n 1, 1) := by decide +kernel
theorem dX2_takeStatement_181 : decode cX2_takeStatement 181 = .ok (.iconst 1, 1) := by decide +kernel
theorem dX2_takeStatement_182 : decode cX2_takeStatement 182 = .ok (.iadd, 1) := by decide +kernel
theorem dX2_takeStatement_183 : decode cX2_takeStatement 183 = .ok (.iconst 2, 1) := by decide +kernel
theorem dX2_takeStatement_184 : decode cX2_takeStatement 184 = .ok (.invokevirtual 275, 3) := by decide +kernel
theorem dX2_takeStatement_187 : decode cX2_takeStatement 187 = .ok (.invokevirtual 282, 3) := by decide +kernel
theorem dX2_takeStatement_190 : decode cX2_takeStatement 190 = .ok (.ireturn, 1) := by decide +kernel
theorem dX2_takeStatement_191 : decode cX2_takeStatement 191 = .ok (.aload_n 0, 1) := by decide +kernel
theorem dX2_takeStatement_192 : decode cX2_takeStatement 192 = .ok (.getfield 19, 3) := by decide +kernel
theorem dX2_takeStatement_195 : decode cX2_takeStatement 195 = .ok (.iconst 3, 1) := by decide +kernel
theorem dX2_takeStatement_196 : decode cX2_takeStatement 196 = .ok (.aload_n 0, 1) := by decide +kernel
theorem dX2_takeStatement_197 : decode cX2_takeStatement 197 = .ok (.iload_n 1, 1) := by decide +kernel
theorem dX2_takeStatement_198 : decode cX2_takeStatement 198 = .ok (.iconst 1, 1) := by decide +kernel
theorem dX2_takeStatement_199 : decode cX2_takeStatement 199 = .ok (.iadd, 1) := by decide +kernel
theorem dX2_takeStatement_200 : decode cX2_takeStatement 200 = .ok (.iconst 2, 1) := by decide +kernel
theorem dX2_takeStatement_201 : decode cX2_takeStatement 201 = .ok (.invokevirtual 275, 3) := by decide +kernel
theorem dX2_takeStatement_204 : decode cX2_takeStatement 204 = .ok (.invokevirtual 282, 3) := by decide +kernel
theorem dX2_takeStatement_207 : decode cX2_takeStatement 207 = .ok (.ireturn, 1) := by decide +kernel
theorem dX2_takeStatement_208 : decode cX2_takeStatement 208 = .ok (.aload_n 0, 1) := by decide +kernel
theorem dX2_takeStatement_209 : decode cX2_takeStatement 209 = .ok (.getfield 19, 3) := by decide +kernel
theorem dX2_takeStatement_212 : decode cX2_takeStatement 212 = .ok (.iconst 4, 1) := by decide +kernel
theorem dX2_takeStatement_213 : decode cX2_takeStatement 213 = .ok (.aload_n 0, 1) := by decide +kernel
theorem dX2_takeStatement_214 : decode cX2_takeStatement 214 = .ok (.iload_n 1, 1) := by decide +kernel
theorem dX2_takeStatement_215 : decode cX2_takeStatement 215 = .ok (.iconst 1, 1) := by decide +kernel
theorem dX2_takeStatement_216 : decode cX2_takeStatement 216 = .ok (.iadd, 1) := by decide +kernel
theorem dX2_takeStatement_217 : decode cX2_takeStatement 217 = .ok (.iconst 1, 1) := by decide +kernel
theorem dX2_takeStatement_218 : decode cX2_takeStatement 218 = .ok (.invokevirtual 275, 3) := by decide +kernel
theorem dX2_takeStatement_221 : decode cX2_takeStatement 221 = .ok (.invokevirtual 282, 3) := by decide +kernel
theorem dX2_takeStatement_224 : decode cX2_takeStatement 224 = .ok (.ireturn, 1) := by decide +kernel
theorem dX2_takeStatement_225 : decode cX2_takeStatement 225 = .ok (.aload_n 0, 1) := by decide +kernel
theorem dX2_takeStatement_226 : decode cX2_takeStatement 226 = .ok (.getfield 19, 3) := by decide +kernel
theorem dX2_takeStatement_229 : decode cX2_takeStatement 229 = .ok (.aload_n 0, 1) := by decide +kernel
theorem dX2_takeStatement_230 : decode cX2_takeStatement 230 = .ok (.iload_n 1, 1) := by decide +kernel
theorem dX2_takeStatement_231 : decode cX2_takeStatement 231 = .ok (.iconst 1, 1) := by decide +kernel
theorem dX2_takeStatement_232 : decode cX2_takeStatement 232 = .ok (.iadd, 1) := by decide +kernel
theorem dX2_takeStatement_233 : decode cX2_takeStatement 233 = .ok (.iconst 1, 1) := by decide +kernel
theorem dX2_takeStatement_234 : decode cX2_takeStatement 234 = .ok (.invokevirtual 275, 3) := by decide +kernel
theorem dX2_takeStatement_237 : decode cX2_takeStatement 237 = .ok (.invokevirtual 285, 3) := by decide +kernel
theorem dX2_takeStatement_240 : decode cX2_takeStatement 240 = .ok (.ireturn, 1) := by decide +kernel
theorem dX2_takeStatement_241 : decode cX2_takeStatement 241 = .ok (.aload_n 0, 1) := by decide +kernel
theorem dX2_takeStatement_242 : decode cX2_takeStatement 242 = .ok (.getfield 19, 3) := by decide +kernel
theorem dX2_takeStatement_245 : decode cX2_takeStatement 245 = .ok (.aload_n 0, 1) := by decide +kernel
theorem dX2_takeStatement_246 : decode cX2_takeStatement 246 = .ok (.iload_n 1, 1) := by decide +kernel
theorem dX2_takeStatement_247 : decode cX2_takeStatement 247 = .ok (.iconst 1, 1) := by decide +kernel
theorem dX2_takeStatement_248 : decode cX2_takeStatement 248 = .ok (.iadd, 1) := by decide +kernel
theorem dX2_takeStatement_249 : decode cX2_takeStatement 249 = .ok (.iconst 2, 1) := by decide +kernel
theorem dX2_takeStatement_250 : decode cX2_takeStatement 250 = .ok (.invokevirtual 275, 3) := by decide +kernel
theorem dX2_takeStatement_253 : decode cX2_takeStatement 253 = .ok (.invokevirtual 288, 3) := by decide +kernel
theorem dX2_takeStatement_256 : decode cX2_takeStatement 256 = .ok (.ireturn, 1) := by decide +kernel
theorem dX2_takeStatement_257 : decode cX2_takeStatement 257 = .ok (.iconst 0, 1) := by decide +kernel
theorem dX2_takeStatement_258 : decode cX2_takeStatement 258 = .ok (.ireturn, 1) := by decide +kernel
set_option maxRecDepth 20000 in
theorem ggX2_numberAt_X2_letterAt : GoodIn wsX2_numberAt wsX2_letterAt := goodIn_r _ [5, 6, 7, 8, 9, 4, 10, 11, 12, 13, 14, 15, 16, 17, 18, 19, 20, 21, 22] (by decide +kernel) (by decide +kernel)
set_option maxRecDepth 20000 in
theorem gX2_numberAt_X2_letterAt : GoodIn wsX2_numberAt (wsV RX2 259 RX2 yX2_letterAt wsX2_letterAt) := goodIn_app (goodIn_of _ (by decide +kernel)) ggX2_numberAt_X2_letterAt
theorem dX2_numberAt_0 : decode cX2_numberAt 0 = .ok (.iconst 0, 1) := by decide +kernel
theorem dX2_numberAt_1 : decode cX2_numberAt 1 = .ok (.istore_n 3, 1) := by decide +kernel
theorem dX2_numberAt_2 : decode cX2_numberAt 2 = .ok (.iconst 0, 1) := by decide +kernel
theorem dX2_numberAt_3 : decode cX2_numberAt 3 = .ok (.istore 4, 2) := by decide +kernel
theorem dX2_numberAt_5 : decode cX2_numberAt 5 = .ok (.iload 4, 2) := by decide +kernel
theorem dX2_numberAt_7 : decode cX2_numberAt 7 = .ok (.iload_n 2, 1) := by decide +kernel
theorem dX2_numberAt_8 : decode cX2_numberAt 8 = .ok (.if_icmp .ge 26, 3) := by decide +kernel
theorem dX2_numberAt_11 : decode cX2_numberAt 11 = .ok (.iload_n 3, 1) := by decide +kernel
theorem dX2_numberAt_12 : decode cX2_numberAt 12 = .ok (.bipush 10, 2) := by decide +kernel
theorem dX2_numberAt_14 : decode cX2_numberAt 14 = .ok (.imul, 1) := by decide +kernel
theorem dX2_numberAt_15 : decode cX2_numberAt 15 = .ok (.aload_n 0, 1) := by decide +kernel
theorem dX2_numberAt_16 : decode cX2_numberAt 16 = .ok (.iload_n 1, 1) := by decide +kernel
theorem dX2_numberAt_17 : decode cX2_numberAt 17 = .ok (.iload 4, 2) := by decide +kernel
theorem dX2_numberAt_19 : decode cX2_numberAt 19 = .ok (.iadd, 1) := by decide +kernel
theorem dX2_numberAt_20 : decode cX2_numberAt 20 = .ok (.invokevirtual 259, 3) := by decide +kernel
theorem dX2_numberAt_23 : decode cX2_numberAt 23 = .ok (.iadd, 1) := by decide +kernel
theorem dX2_numberAt_24 : decode cX2_numberAt 24 = .ok (.bipush 48, 2) := by decide +kernel
theorem dX2_numberAt_26 : decode cX2_numberAt 26 = .ok (.isub, 1) := by decide +kernel
theorem dX2_numberAt_27 : decode cX2_numberAt 27 = .ok (.istore_n 3, 1) := by decide +kernel
theorem dX2_numberAt_28 : decode cX2_numberAt 28 = .ok (.iinc 4 1, 3) := by decide +kernel
theorem dX2_numberAt_31 : decode cX2_numberAt 31 = .ok (.goto (-26), 3) := by decide +kernel
theorem dX2_numberAt_34 : decode cX2_numberAt 34 = .ok (.iload_n 3, 1) := by decide +kernel
theorem dX2_numberAt_35 : decode cX2_numberAt 35 = .ok (.ireturn, 1) := by decide +kernel
theorem dX2_allowance_0 : decode cX2_allowance 0 = .ok (.iload_n 0, 1) := by decide +kernel
theorem dX2_allowance_1 : decode cX2_allowance 1 = .ok (.tableswitch 55 1 6 #[39, 41, 44, 49, 52, 39], 39) := by decide +kernel
theorem dX2_allowance_40 : decode cX2_allowance 40 = .ok (.iconst 4, 1) := by decide +kernel
theorem dX2_allowance_41 : decode cX2_allowance 41 = .ok (.ireturn, 1) := by decide +kernel
theorem dX2_allowance_42 : decode cX2_allowance 42 = .ok (.bipush 7, 2) := by decide +kernel
theorem dX2_allowance_44 : decode cX2_allowance 44 = .ok (.ireturn, 1) := by decide +kernel
theorem dX2_allowance_45 : decode cX2_allowance 45 = .ok (.bipush 9, 2) := by decide +kernel
theorem dX2_allowance_47 : decode cX2_allowance 47 = .ok (.iload_n 1, 1) := by decide +kernel
theorem dX2_allowance_48 : decode cX2_allowance 48 = .ok (.isub, 1) := by decide +kernel
theorem dX2_allowance_49 : decode cX2_allowance 49 = .ok (.ireturn, 1) := by decide +kernel
theorem dX2_allowance_50 : decode cX2_allowance 50 = .ok (.bipush 6, 2) := by decide +kernel
theorem dX2_allowance_52 : decode cX2_allowance 52 = .ok (.ireturn, 1) := by decide +kernel
theorem dX2_allowance_53 : decode cX2_allowance 53 = .ok (.bipush 15, 2) := by decide +kernel
theorem dX2_allowance_55 : decode cX2_allowance 55 = .ok (.ireturn, 1) := by decide +kernel
theorem dX2_allowance_56 : decode cX2_allowance 56 = .ok (.iconst 0, 1) := by decide +kernel
theorem dX2_allowance_57 : decode cX2_allowance 57 = .ok (.ireturn, 1) := by decide +kernel
theorem dX2_thickness_0 : decode cX2_thickness 0 = .ok (.iconst 0, 1) := by decide +kernel
theorem dX2_thickness_1 : decode cX2_thickness 1 = .ok (.iload_n 1, 1) := by decide +kernel
theorem dX2_thickness_2 : decode cX2_thickness 2 = .ok (.iload_n 2, 1) := by decide +kernel
theorem dX2_thickness_3 : decode cX2_thickness 3 = .ok (.iadd, 1) := by decide +kernel
theorem dX2_thickness_4 : decode cX2_thickness 4 = .ok (.iload_n 3, 1) := by decide +kernel
theorem dX2_thickness_5 : decode cX2_thickness 5 = .ok (.isub, 1) := by decide +kernel
theorem dX2_thickness_6 : decode cX2_thickness 6 = .ok (.invokestatic 175, 3) := by decide +kernel
theorem dX2_thickness_9 : decode cX2_thickness 9 = .ok (.istore 5, 2) := by decide +kernel
theorem dX2_thickness_11 : decode cX2_thickness 11 = .ok (.iconst 0, 1) := by decide +kernel
theorem dX2_thickness_12 : decode cX2_thickness 12 = .ok (.iload_n 1, 1) := by decide +kernel
theorem dX2_thickness_13 : decode cX2_thickness 13 = .ok (.iload_n 2, 1) := by decide +kernel
theorem dX2_thickness_14 : decode cX2_thickness 14 = .ok (.iconst 2, 1) := by decide +kernel
theorem dX2_thickness_15 : decode cX2_thickness 15 = .ok (.idiv, 1) := by decide +kernel
theorem dX2_thickness_16 : decode cX2_thickness 16 = .ok (.iadd, 1) := by decide +kernel
theorem dX2_thickness_17 : decode cX2_thickness 17 = .ok (.iload_n 3, 1) := by decide +kernel
theorem dX2_thickness_18 : decode cX2_thickness 18 = .ok (.iconst 4, 1) := by decide +kernel
theorem dX2_thickness_19 : decode cX2_thickness 19 = .ok (.idiv, 1) := by decide +kernel
theorem dX2_thickness_20 : decode cX2_thickness 20 = .ok (.isub, 1) := by decide +kernel
theorem dX2_thickness_21 : decode cX2_thickness 21 = .ok (.invokestatic 175, 3) := by decide +kernel
theorem dX2_thickness_24 : decode cX2_thickness 24 = .ok (.istore 6, 2) := by decide +kernel
theorem dX2_thickness_26 : decode cX2_thickness 26 = .ok (.iload_n 0, 1) := by decide +kernel
theorem dX2_thickness_27 : decode cX2_thickness 27 = .ok (.tableswitch 77 1 5 #[33, 36, 41, 58, 64], 33) := by decide +kernel
theorem dX2_thickness_60 : decode cX2_thickness 60 = .ok (.iload 6, 2) := by decide +kernel
theorem dX2_thickness_62 : decode cX2_thickness 62 = .ok (.ireturn, 1) := by decide +kernel
theorem dX2_thickness_63 : decode cX2_thickness 63 = .ok (.iload 5, 2) := by decide +kernel
theorem dX2_thickness_65 : decode cX2_thickness 65 = .ok (.iload_n 2, 1) := by decide +kernel
theorem dX2_thickness_66 : decode cX2_thickness 66 = .ok (.iadd, 1) := by decide +kernel
theorem dX2_thickness_67 : decode cX2_thickness 67 = .ok (.ireturn, 1) := by decide +kernel
theorem dX2_thickness_68 : decode cX2_thickness 68 = .ok (.iload 5, 2) := by decide +kernel
theorem dX2_thickness_70 : decode cX2_thickness 70 = .ok (.iload_n 2, 1) := by decide +kernel
theorem dX2_thickness_71 : decode cX2_thickness 71 = .ok (.iadd, 1) := by decide +kernel
theorem dX2_thickness_72 : decode cX2_thickness 72 = .ok (.iload_n 2, 1) := by decide +kernel
theorem dX2_thickness_73 : decode cX2_thickness 73 = .ok (.bipush 9, 2) := by decide +kernel
theorem dX2_thickness_75 : decode cX2_thickness 75 = .ok (.if_icmp .le 7, 3) := by decide +kernel
theorem dX2_thickness_78 : decode cX2_thickness 78 = .ok (.iconst 3, 1) := by decide +kernel
theorem dX2_thickness_79 : decode cX2_thickness 79 = .ok (.goto 4, 3) := by decide +kernel
theorem dX2_thickness_82 : decode cX2_thickness 82 = .ok (.iconst 0, 1) := by decide +kernel
theorem dX2_thickness_83 : decode cX2_thickness 83 = .ok (.iadd, 1) := by decide +kernel
theorem dX2_thickness_84 : decode cX2_thickness 84 = .ok (.ireturn, 1) := by decide +kernel
theorem dX2_thickness_85 : decode cX2_thickness 85 = .ok (.iload 6, 2) := by decide +kernel
theorem dX2_thickness_87 : decode cX2_thickness 87 = .ok (.iload 4, 2) := by decide +kernel
theorem dX2_thickness_89 : decode cX2_thickness 89 = .ok (.iadd, 1) := by decide +kernel
theorem dX2_thickness_90 : decode cX2_thickness 90 = .ok (.ireturn, 1) := by decide +kernel
theorem dX2_thickness_91 : decode cX2_thickness 91 = .ok (.iconst 0, 1) := by decide +kernel
theorem dX2_thickness_92 : decode cX2_thickness 92 = .ok (.iload 6, 2) := by decide +kernel
theorem dX2_thickness_94 : decode cX2_thickness 94 = .ok (.iload 4, 2) := by decide +kernel
theorem dX2_thickness_96 : decode cX2_thickness 96 = .ok (.iadd, 1) := by decide +kernel
theorem dX2_thickness_97 : decode cX2_thickness 97 = .ok (.bipush 10, 2) := by decide +kernel
theorem dX2_thickness_99 : decode cX2_thickness 99 = .ok (.isub, 1) := by decide +kernel
theorem dX2_thickness_100 : decode cX2_thickness 100 = .ok (.invokestatic 175, 3) := by decide +kernel
theorem dX2_thickness_103 : decode cX2_thickness 103 = .ok (.ireturn, 1) := by decide +kernel
theorem dX2_thickness_104 : decode cX2_thickness 104 = .ok (.iload 5, 2) := by decide +kernel
theorem dX2_thickness_106 : decode cX2_thickness 106 = .ok (.ireturn, 1) := by decide +kernel
theorem dX2_at_0 : decode cX2_at 0 = .ok (.iload_n 1, 1) := by decide +kernel
theorem dX2_at_1 : decode cX2_at 1 = .ok (.ifCond .lt 15, 3) := by decide +kernel
theorem dX2_at_4 : decode cX2_at 4 = .ok (.iload_n 1, 1) := by decide +kernel
theorem dX2_at_5 : decode cX2_at 5 = .ok (.aload_n 0, 1) := by decide +kernel
theorem dX2_at_6 : decode cX2_at 6 = .ok (.arraylength, 1) := by decide +kernel
theorem dX2_at_7 : decode cX2_at 7 = .ok (.if_icmp .ge 9, 3) := by decide +kernel
theorem dX2_at_10 : decode cX2_at 10 = .ok (.aload_n 0, 1) := by decide +kernel
theorem dX2_at_11 : decode cX2_at 11 = .ok (.iload_n 1, 1) := by decide +kernel
theorem dX2_at_12 : decode cX2_at 12 = .ok (.iaload, 1) := by decide +kernel
theorem dX2_at_13 : decode cX2_at 13 = .ok (.goto 4, 3) := by decide +kernel
theorem dX2_at_16 : decode cX2_at 16 = .ok (.iconst 0, 1) := by decide +kernel
theorem dX2_at_17 : decode cX2_at 17 = .ok (.ireturn, 1) := by decide +kernel
theorem dX2_put_0 : decode cX2_put 0 = .ok (.iload_n 1, 1) := by decide +kernel
theorem dX2_put_1 : decode cX2_put 1 = .ok (.ifCond .lt 13, 3) := by decide +kernel
theorem dX2_put_4 : decode cX2_put 4 = .ok (.iload_n 1, 1) := by decide +kernel
theorem dX2_put_5 : decode cX2_put 5 = .ok (.aload_n 0, 1) := by decide +kernel
theorem dX2_put_6 : decode cX2_put 6 = .ok (.arraylength, 1) := by decide +kernel
theorem dX2_put_7 : decode cX2_put 7 = .ok (.if_icmp .ge 7, 3) := by decide +kernel
theorem dX2_put_10 : decode cX2_put 10 = .ok (.aload_n 0, 1) := by decide +kernel
theorem dX2_put_11 : decode cX2_put 11 = .ok (.iload_n 1, 1) := by decide +kernel
theorem dX2_put_12 : decode cX2_put 12 = .ok (.iload_n 2, 1) := by decide +kernel
theorem dX2_put_13 : decode cX2_put 13 = .ok (.iastore, 1) := by decide +kernel
theorem dX2_put_14 : decode cX2_put 14 = .ok (.return_, 1) := by decide +kernel
