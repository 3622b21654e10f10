theorem dX0_init_0 : decode cX0_init 0 = .ok (.aload_n 0, 1) := by decide +kernel
theorem dX0_init_1 : decode cX0_init 1 = .ok (.invokespecial 3, 3) := by decide +kernel
theorem dX0_init_4 : decode cX0_init 4 = .ok (.aload_n 0, 1) := by decide +kernel
theorem dX0_init_5 : decode cX0_init 5 = .ok (.bipush 6, 2) := by decide +kernel
theorem dX0_init_7 : decode cX0_init 7 = .ok (.newarray .int, 2) := by decide +kernel
theorem dX0_init_9 : decode cX0_init 9 = .ok (.putfield 9, 3) := by decide +kernel
theorem dX0_init_12 : decode cX0_init 12 = .ok (.aload_n 0, 1) := by decide +kernel
theorem dX0_init_13 : decode cX0_init 13 = .ok (.bipush 6, 2) := by decide +kernel
theorem dX0_init_15 : decode cX0_init 15 = .ok (.newarray .int, 2) := by decide +kernel
theorem dX0_init_17 : decode cX0_init 17 = .ok (.putfield 15, 3) := by decide +kernel
theorem dX0_init_20 : decode cX0_init 20 = .ok (.aload_n 0, 1) := by decide +kernel
theorem dX0_init_21 : decode cX0_init 21 = .ok (.iconst 0, 1) := by decide +kernel
theorem dX0_init_22 : decode cX0_init 22 = .ok (.putfield 18, 3) := by decide +kernel
theorem dX0_init_25 : decode cX0_init 25 = .ok (.aload_n 0, 1) := by decide +kernel
theorem dX0_init_26 : decode cX0_init 26 = .ok (.sipush 180, 3) := by decide +kernel
theorem dX0_init_29 : decode cX0_init 29 = .ok (.putfield 22, 3) := by decide +kernel
theorem dX0_init_32 : decode cX0_init 32 = .ok (.aload_n 0, 1) := by decide +kernel
theorem dX0_init_33 : decode cX0_init 33 = .ok (.iconst 4, 1) := by decide +kernel
theorem dX0_init_34 : decode cX0_init 34 = .ok (.putfield 25, 3) := by decide +kernel
theorem dX0_init_37 : decode cX0_init 37 = .ok (.aload_n 0, 1) := by decide +kernel
theorem dX0_init_38 : decode cX0_init 38 = .ok (.iconst 0, 1) := by decide +kernel
theorem dX0_init_39 : decode cX0_init 39 = .ok (.putfield 28, 3) := by decide +kernel
theorem dX0_init_42 : decode cX0_init 42 = .ok (.aload_n 0, 1) := by decide +kernel
theorem dX0_init_43 : decode cX0_init 43 = .ok (.iconst 0, 1) := by decide +kernel
theorem dX0_init_44 : decode cX0_init 44 = .ok (.putfield 31, 3) := by decide +kernel
theorem dX0_init_47 : decode cX0_init 47 = .ok (.aload_n 0, 1) := by decide +kernel
theorem dX0_init_48 : decode cX0_init 48 = .ok (.iconst 0, 1) := by decide +kernel
theorem dX0_init_49 : decode cX0_init 49 = .ok (.putfield 34, 3) := by decide +kernel
theorem dX0_init_52 : decode cX0_init 52 = .ok (.aload_n 0, 1) := by decide +kernel
theorem dX0_init_53 : decode cX0_init 53 = .ok (.iconst 0, 1) := by decide +kernel
theorem dX0_init_54 : decode cX0_init 54 = .ok (.putfield 37, 3) := by decide +kernel
theorem dX0_init_57 : decode cX0_init 57 = .ok (.aload_n 0, 1) := by decide +kernel
theorem dX0_init_58 : decode cX0_init 58 = .ok (.iconst 3, 1) := by decide +kernel
theorem dX0_init_59 : decode cX0_init 59 = .ok (.putfield 40, 3) := by decide +kernel
theorem dX0_init_62 : decode cX0_init 62 = .ok (.aload_n 0, 1) := by decide +kernel
theorem dX0_init_63 : decode cX0_init 63 = .ok (.iconst 0, 1) := by decide +kernel
theorem dX0_init_64 : decode cX0_init 64 = .ok (.putfield 43, 3) := by decide +kernel
theorem dX0_init_67 : decode cX0_init 67 = .ok (.aload_n 0, 1) := by decide +kernel
theorem dX0_init_68 : decode cX0_init 68 = .ok (.iconst 0, 1) := by decide +kernel
theorem dX0_init_69 : decode cX0_init 69 = .ok (.putfield 46, 3) := by decide +kernel
theorem dX0_init_72 : decode cX0_init 72 = .ok (.return_, 1) := by decide +kernel
theorem dX0_copyFrom_0 : decode cX0_copyFrom 0 = .ok (.aload_n 1, 1) := by decide +kernel
theorem dX0_copyFrom_1 : decode cX0_copyFrom 1 = .ok (.getfield 9, 3) := by decide +kernel
theorem dX0_copyFrom_4 : decode cX0_copyFrom 4 = .ok (.iconst 0, 1) := by decide +kernel
theorem dX0_copyFrom_5 : decode cX0_copyFrom 5 = .ok (.aload_n 0, 1) := by decide +kernel
theorem dX0_copyFrom_6 : decode cX0_copyFrom 6 = .ok (.getfield 9, 3) := by decide +kernel
theorem dX0_copyFrom_9 : decode cX0_copyFrom 9 = .ok (.iconst 0, 1) := by decide +kernel
theorem dX0_copyFrom_10 : decode cX0_copyFrom 10 = .ok (.bipush 6, 2) := by decide +kernel
theorem dX0_copyFrom_12 : decode cX0_copyFrom 12 = .ok (.invokestatic 49, 3) := by decide +kernel
theorem dX0_copyFrom_15 : decode cX0_copyFrom 15 = .ok (.aload_n 1, 1) := by decide +kernel
theorem dX0_copyFrom_16 : decode cX0_copyFrom 16 = .ok (.getfield 15, 3) := by decide +kernel
theorem dX0_copyFrom_19 : decode cX0_copyFrom 19 = .ok (.iconst 0, 1) := by decide +kernel
theorem dX0_copyFrom_20 : decode cX0_copyFrom 20 = .ok (.aload_n 0, 1) := by decide +kernel
theorem dX0_copyFrom_21 : decode cX0_copyFrom 21 = .ok (.getfield 15, 3) := by decide +kernel
theorem dX0_copyFrom_24 : decode cX0_copyFrom 24 = .ok (.iconst 0, 1) := by decide +kernel
theorem dX0_copyFrom_25 : decode cX0_copyFrom 25 = .ok (.bipush 6, 2) := by decide +kernel
theorem dX0_copyFrom_27 : decode cX0_copyFrom 27 = .ok (.invokestatic 49, 3) := by decide +kernel
theorem dX0_copyFrom_30 : decode cX0_copyFrom 30 = .ok (.aload_n 0, 1) := by decide +kernel
theorem dX0_copyFrom_31 : decode cX0_copyFrom 31 = .ok (.aload_n 1, 1) := by decide +kernel
theorem dX0_copyFrom_32 : decode cX0_copyFrom 32 = .ok (.getfield 18, 3) := by decide +kernel
theorem dX0_copyFrom_35 : decode cX0_copyFrom 35 = .ok (.putfield 18, 3) := by decide +kernel
theorem dX0_copyFrom_38 : decode cX0_copyFrom 38 = .ok (.aload_n 0, 1) := by decide +kernel
theorem dX0_copyFrom_39 : decode cX0_copyFrom 39 = .ok (.aload_n 1, 1) := by decide +kernel
theorem dX0_copyFrom_40 : decode cX0_copyFrom 40 = .ok (.getfield 22, 3) := by decide +kernel
theorem dX0_copyFrom_43 : decode cX0_copyFrom 43 = .ok (.putfield 22, 3) := by decide +kernel
theorem dX0_copyFrom_46 : decode cX0_copyFrom 46 = .ok (.aload_n 0, 1) := by decide +kernel
theorem dX0_copyFrom_47 : decode cX0_copyFrom 47 = .ok (.aload_n 1, 1) := by decide +kernel
theorem dX0_copyFrom_48 : decode cX0_copyFrom 48 = .ok (.getfield 25, 3) := by decide +kernel
theorem dX0_copyFrom_51 : decode cX0_copyFrom 51 = .ok (.putfield 25, 3) := by decide +kernel
theorem dX0_copyFrom_54 : decode cX0_copyFrom 54 = .ok (.aload_n 0, 1) := by decide +kernel
theorem dX0_copyFrom_55 : decode cX0_copyFrom 55 = .ok (.aload_n 1, 1) := by decide +kernel
theorem dX0_copyFrom_56 : decode cX0_copyFrom 56 = .ok (.getfield 28, 3) := by decide +kernel
theorem dX0_copyFrom_59 : decode cX0_copyFrom 59 = .ok (.putfield 28, 3) := by decide +kernel
theorem dX0_copyFrom_62 : decode cX0_copyFrom 62 = .ok (.aload_n 0, 1) := by decide +kernel
theorem dX0_copyFrom_63 : decode cX0_copyFrom 63 = .ok (.aload_n 1, 1) := by decide +kernel
theorem dX0_copyFrom_64 : decode cX0_copyFrom 64 = .ok (.getfield 31, 3) := by decide +kernel
theorem dX0_copyFrom_67 : decode cX0_copyFrom 67 = .ok (.putfield 31, 3) := by decide +kernel
theorem dX0_copyFrom_70 : decode cX0_copyFrom 70 = .ok (.aload_n 0, 1) := by decide +kernel
theorem dX0_copyFrom_71 : decode cX0_copyFrom 71 = .ok (.aload_n 1, 1) := by decide +kernel
theorem dX0_copyFrom_72 : decode cX0_copyFrom 72 = .ok (.getfield 34, 3) := by decide +kernel
theorem dX0_copyFrom_75 : decode cX0_copyFrom 75 = .ok (.putfield 34, 3) := by decide +kernel
theorem dX0_copyFrom_78 : decode cX0_copyFrom 78 = .ok (.aload_n 0, 1) := by decide +kernel
theorem dX0_copyFrom_79 : decode cX0_copyFrom 79 = .ok (.aload_n 1, 1) := by decide +kernel
theorem dX0_copyFrom_80 : decode cX0_copyFrom 80 = .ok (.getfield 37, 3) := by decide +kernel
theorem dX0_copyFrom_83 : decode cX0_copyFrom 83 = .ok (.putfield 37, 3) := by decide +kernel
theorem dX0_copyFrom_86 : decode cX0_copyFrom 86 = .ok (.aload_n 0, 1) := by decide +kernel
theorem dX0_copyFrom_87 : decode cX0_copyFrom 87 = .ok (.aload_n 1, 1) := by decide +kernel
theorem dX0_copyFrom_88 : decode cX0_copyFrom 88 = .ok (.getfield 40, 3) := by decide +kernel
theorem dX0_copyFrom_91 : decode cX0_copyFrom 91 = .ok (.putfield 40, 3) := by decide +kernel
theorem dX0_copyFrom_94 : decode cX0_copyFrom 94 = .ok (.aload_n 0, 1) := by decide +kernel
theorem dX0_copyFrom_95 : decode cX0_copyFrom 95 = .ok (.aload_n 1, 1) := by decide +kernel
theorem dX0_copyFrom_96 : decode cX0_copyFrom 96 = .ok (.getfield 43, 3) := by decide +kernel
theorem dX0_copyFrom_99 : decode cX0_copyFrom 99 = .ok (.putfield 43, 3) := by decide +kernel
theorem dX0_copyFrom_102 : decode cX0_copyFrom 102 = .ok (.aload_n 0, 1) := by decide +kernel
theorem dX0_copyFrom_103 : decode cX0_copyFrom 103 = .ok (.aload_n 1, 1) := by decide +kernel
theorem dX0_copyFrom_104 : decode cX0_copyFrom 104 = .ok (.getfield 46, 3) := by decide +kernel
theorem dX0_copyFrom_107 : decode cX0_copyFrom 107 = .ok (.putfield 46, 3) := by decide +kernel
theorem dX0_copyFrom_110 : decode cX0_copyFrom 110 = .ok (.return_, 1) := by decide +kernel
theorem dX0_isOff_0 : decode cX0_isOff 0 = .ok (.aload_n 0, 1) := by decide +kernel
theorem dX0_isOff_1 : decode cX0_isOff 1 = .ok (.getfield 28, 3) := by decide +kernel
theorem dX0_isOff_4 : decode cX0_isOff 4 = .ok (.aload_n 0, 1) := by decide +kernel
theorem dX0_isOff_5 : decode cX0_isOff 5 = .ok (.getfield 18, 3) := by decide +kernel
theorem dX0_isOff_8 : decode cX0_isOff 8 = .ok (.if_icmp .lt 7, 3) := by decide +kernel
theorem dX0_isOff_11 : decode cX0_isOff 11 = .ok (.iconst 1, 1) := by decide +kernel
theorem dX0_isOff_12 : decode cX0_isOff 12 = .ok (.goto 4, 3) := by decide +kernel
theorem dX0_isOff_15 : decode cX0_isOff 15 = .ok (.iconst 0, 1) := by decide +kernel
theorem dX0_isOff_16 : decode cX0_isOff 16 = .ok (.ireturn, 1) := by decide +kernel
theorem dX0_hasMinutes_0 : decode cX0_hasMinutes 0 = .ok (.aload_n 0, 1) := by decide +kernel
theorem dX0_hasMinutes_1 : decode cX0_hasMinutes 1 = .ok (.getfield 43, 3) := by decide +kernel
theorem dX0_hasMinutes_4 : decode cX0_hasMinutes 4 = .ok (.iload_n 1, 1) := by decide +kernel
theorem dX0_hasMinutes_5 : decode cX0_hasMinutes 5 = .ok (.iadd, 1) := by decide +kernel
theorem dX0_hasMinutes_6 : decode cX0_hasMinutes 6 = .ok (.sipush 999, 3) := by decide +kernel
theorem dX0_hasMinutes_9 : decode cX0_hasMinutes 9 = .ok (.if_icmp .gt 7, 3) := by decide +kernel
theorem dX0_hasMinutes_12 : decode cX0_hasMinutes 12 = .ok (.iconst 1, 1) := by decide +kernel
theorem dX0_hasMinutes_13 : decode cX0_hasMinutes 13 = .ok (.goto 4, 3) := by decide +kernel
theorem dX0_hasMinutes_16 : decode cX0_hasMinutes 16 = .ok (.iconst 0, 1) := by decide +kernel
theorem dX0_hasMinutes_17 : decode cX0_hasMinutes 17 = .ok (.ireturn, 1) := by decide +kernel
set_option maxRecDepth 20000 in
theorem ggX0_thickNow_X2_at : GoodIn wsX0_thickNow wsX2_at := goodIn_r _ [8] (by decide +kernel) (by decide +kernel)
set_option maxRecDepth 20000 in
theorem gX0_thickNow_X2_at_n55 : GoodIn wsX0_thickNow (wsX2_at) := ggX0_thickNow_X2_at
set_option maxRecDepth 20000 in
theorem ggX0_thickNow_X2_thickness : GoodIn wsX0_thickNow wsX2_thickness := goodIn_r _ [10, 11, 12, 13, 14] (by decide +kernel) (by decide +kernel)
set_option maxRecDepth 20000 in
theorem gX0_thickNow_X2_thickness_n59 : GoodIn wsX0_thickNow (wsX2_thickness) := ggX0_thickNow_X2_thickness
theorem dX0_thickNow_0 : decode cX0_thickNow 0 = .ok (.aload_n 0, 1) := by decide +kernel
theorem dX0_thickNow_1 : decode cX0_thickNow 1 = .ok (.getfield 9, 3) := by decide +kernel
theorem dX0_thickNow_4 : decode cX0_thickNow 4 = .ok (.iload_n 1, 1) := by decide +kernel
theorem dX0_thickNow_5 : decode cX0_thickNow 5 = .ok (.invokestatic 55, 3) := by decide +kernel
theorem dX0_thickNow_8 : decode cX0_thickNow 8 = .ok (.aload_n 0, 1) := by decide +kernel
theorem dX0_thickNow_9 : decode cX0_thickNow 9 = .ok (.getfield 15, 3) := by decide +kernel
theorem dX0_thickNow_12 : decode cX0_thickNow 12 = .ok (.iload_n 1, 1) := by decide +kernel
theorem dX0_thickNow_13 : decode cX0_thickNow 13 = .ok (.invokestatic 55, 3) := by decide +kernel
theorem dX0_thickNow_16 : decode cX0_thickNow 16 = .ok (.aload_n 0, 1) := by decide +kernel
theorem dX0_thickNow_17 : decode cX0_thickNow 17 = .ok (.getfield 31, 3) := by decide +kernel
theorem dX0_thickNow_20 : decode cX0_thickNow 20 = .ok (.aload_n 0, 1) := by decide +kernel
theorem dX0_thickNow_21 : decode cX0_thickNow 21 = .ok (.getfield 34, 3) := by decide +kernel
theorem dX0_thickNow_24 : decode cX0_thickNow 24 = .ok (.aload_n 0, 1) := by decide +kernel
theorem dX0_thickNow_25 : decode cX0_thickNow 25 = .ok (.getfield 40, 3) := by decide +kernel
theorem dX0_thickNow_28 : decode cX0_thickNow 28 = .ok (.invokestatic 59, 3) := by decide +kernel
theorem dX0_thickNow_31 : decode cX0_thickNow 31 = .ok (.ireturn, 1) := by decide +kernel
set_option maxRecDepth 20000 in
theorem ggX0_thickestNow_X0_thickNow : GoodIn wsX0_thickestNow wsX0_thickNow := goodIn_r _ [10, 11, 12, 13, 14, 15, 16, 17, 18, 19, 20, 21, 3, 4, 5, 22, 23, 24, 25, 26, 27, 28, 29, 30, 31, 32, 33] (by decide +kernel) (by decide +kernel)
set_option maxRecDepth 20000 in
theorem gX0_thickestNow_X0_thickNow : GoodIn wsX0_thickestNow (wsV RX0 63 RX0 yX0_thickNow wsX0_thickNow) := goodIn_app (goodIn_of _ (by decide +kernel)) ggX0_thickestNow_X0_thickNow
theorem dX0_thickestNow_0 : decode cX0_thickestNow 0 = .ok (.iconst (-1), 1) := by decide +kernel
theorem dX0_thickestNow_1 : decode cX0_thickestNow 1 = .ok (.istore_n 1, 1) := by decide +kernel
theorem dX0_thickestNow_2 : decode cX0_thickestNow 2 = .ok (.iconst 0, 1) := by decide +kernel
theorem dX0_thickestNow_3 : decode cX0_thickestNow 3 = .ok (.istore_n 2, 1) := by decide +kernel
theorem dX0_thickestNow_4 : decode cX0_thickestNow 4 = .ok (.iload_n 2, 1) := by decide +kernel
theorem dX0_thickestNow_5 : decode cX0_thickestNow 5 = .ok (.aload_n 0, 1) := by decide +kernel
theorem dX0_thickestNow_6 : decode cX0_thickestNow 6 = .ok (.getfield 18, 3) := by decide +kernel
theorem dX0_thickestNow_9 : decode cX0_thickestNow 9 = .ok (.if_icmp .ge 19, 3) := by decide +kernel
theorem dX0_thickestNow_12 : decode cX0_thickestNow 12 = .ok (.iload_n 1, 1) := by decide +kernel
theorem dX0_thickestNow_13 : decode cX0_thickestNow 13 = .ok (.aload_n 0, 1) := by decide +kernel
theorem dX0_thickestNow_14 : decode cX0_thickestNow 14 = .ok (.iload_n 2, 1) := by decide +kernel
theorem dX0_thickestNow_15 : decode cX0_thickestNow 15 = .ok (.invokevirtual 63, 3) := by decide +kernel
theorem dX0_thickestNow_18 : decode cX0_thickestNow 18 = .ok (.invokestatic 67, 3) := by decide +kernel
theorem dX0_thickestNow_21 : decode cX0_thickestNow 21 = .ok (.istore_n 1, 1) := by decide +kernel
theorem dX0_thickestNow_22 : decode cX0_thickestNow 22 = .ok (.iinc 2 1, 3) := by decide +kernel
theorem dX0_thickestNow_25 : decode cX0_thickestNow 25 = .ok (.goto (-21), 3) := by decide +kernel
theorem dX0_thickestNow_28 : decode cX0_thickestNow 28 = .ok (.iload_n 1, 1) := by decide +kernel
theorem dX0_thickestNow_29 : decode cX0_thickestNow 29 = .ok (.ireturn, 1) := by decide +kernel
theorem dX0_coldAhead_0 : decode cX0_coldAhead 0 = .ok (.iload_n 1, 1) := by decide +kernel
theorem dX0_coldAhead_1 : decode cX0_coldAhead 1 = .ok (.bipush 6, 2) := by decide +kernel
theorem dX0_coldAhead_3 : decode cX0_coldAhead 3 = .ok (.if_icmp .ne 18, 3) := by decide +kernel
theorem dX0_coldAhead_6 : decode cX0_coldAhead 6 = .ok (.bipush 20, 2) := by decide +kernel
theorem dX0_coldAhead_8 : decode cX0_coldAhead 8 = .ok (.aload_n 0, 1) := by decide +kernel
theorem dX0_coldAhead_9 : decode cX0_coldAhead 9 = .ok (.getfield 34, 3) := by decide +kernel
theorem dX0_coldAhead_12 : decode cX0_coldAhead 12 = .ok (.bipush 8, 2) := by decide +kernel
theorem dX0_coldAhead_14 : decode cX0_coldAhead 14 = .ok (.iadd, 1) := by decide +kernel
theorem dX0_coldAhead_15 : decode cX0_coldAhead 15 = .ok (.invokestatic 73, 3) := by decide +kernel
theorem dX0_coldAhead_18 : decode cX0_coldAhead 18 = .ok (.goto 7, 3) := by decide +kernel
theorem dX0_coldAhead_21 : decode cX0_coldAhead 21 = .ok (.aload_n 0, 1) := by decide +kernel
theorem dX0_coldAhead_22 : decode cX0_coldAhead 22 = .ok (.getfield 34, 3) := by decide +kernel
theorem dX0_coldAhead_25 : decode cX0_coldAhead 25 = .ok (.ireturn, 1) := by decide +kernel
set_option maxRecDepth 20000 in
theorem ggX0_goesOver_X0_isOff : GoodIn wsX0_goesOver wsX0_isOff := goodIn_r _ [12, 2, 13, 33, 34, 35, 36, 37, 38, 39, 40, 41, 42, 43, 44] (by decide +kernel) (by decide +kernel)
set_option maxRecDepth 20000 in
theorem gX0_goesOver_X0_isOff : GoodIn wsX0_goesOver (wsV RX0 76 RX0 yX0_isOff wsX0_isOff) := goodIn_app (goodIn_of _ (by decide +kernel)) ggX0_goesOver_X0_isOff
set_option maxRecDepth 20000 in
theorem ggX0_goesOver_X2_at : GoodIn wsX0_goesOver wsX2_at := goodIn_r _ [16] (by decide +kernel) (by decide +kernel)
set_option maxRecDepth 20000 in
theorem gX0_goesOver_X2_at_n55 : GoodIn wsX0_goesOver (wsX2_at) := ggX0_goesOver_X2_at
set_option maxRecDepth 20000 in
theorem ggX0_goesOver_X0_coldAhead : GoodIn wsX0_goesOver wsX0_coldAhead := goodIn_r _ [20, 21, 22, 23, 24, 25, 33, 34, 35, 36, 37, 38, 39, 40, 41, 42, 43, 44] (by decide +kernel) (by decide +kernel)
set_option maxRecDepth 20000 in
theorem gX0_goesOver_X0_coldAhead : GoodIn wsX0_goesOver (wsV RX0 80 RX0 yX0_coldAhead wsX0_coldAhead) := goodIn_app (goodIn_of _ (by decide +kernel)) ggX0_goesOver_X0_coldAhead
set_option maxRecDepth 20000 in
theorem ggX0_goesOver_X2_thickness : GoodIn wsX0_goesOver wsX2_thickness := goodIn_r _ [27, 28, 29, 24, 30] (by decide +kernel) (by decide +kernel)
set_option maxRecDepth 20000 in
theorem gX0_goesOver_X2_thickness_n59 : GoodIn wsX0_goesOver (wsX2_thickness) := ggX0_goesOver_X2_thickness
set_option maxRecDepth 20000 in
theorem ggX0_goesOver_X2_allowance : GoodIn wsX0_goesOver wsX2_allowance := goodIn_r _ [32] (by decide +kernel) (by decide +kernel)
set_option maxRecDepth 20000 in
theorem gX0_goesOver_X2_allowance_n83 : GoodIn wsX0_goesOver (wsX2_allowance) := ggX0_goesOver_X2_allowance
theorem dX0_goesOver_0 : decode cX0_goesOver 0 = .ok (.aload_n 0, 1) := by decide +kernel
theorem dX0_goesOver_1 : decode cX0_goesOver 1 = .ok (.invokevirtual 76, 3) := by decide +kernel
theorem dX0_goesOver_4 : decode cX0_goesOver 4 = .ok (.ifCond .eq 5, 3) := by decide +kernel
theorem dX0_goesOver_7 : decode cX0_goesOver 7 = .ok (.iconst 0, 1) := by decide +kernel
theorem dX0_goesOver_8 : decode cX0_goesOver 8 = .ok (.ireturn, 1) := by decide +kernel
theorem dX0_goesOver_9 : decode cX0_goesOver 9 = .ok (.aload_n 0, 1) := by decide +kernel
theorem dX0_goesOver_10 : decode cX0_goesOver 10 = .ok (.getfield 9, 3) := by decide +kernel
theorem dX0_goesOver_13 : decode cX0_goesOver 13 = .ok (.aload_n 0, 1) := by decide +kernel
theorem dX0_goesOver_14 : decode cX0_goesOver 14 = .ok (.getfield 28, 3) := by decide +kernel
theorem dX0_goesOver_17 : decode cX0_goesOver 17 = .ok (.invokestatic 55, 3) := by decide +kernel
theorem dX0_goesOver_20 : decode cX0_goesOver 20 = .ok (.aload_n 0, 1) := by decide +kernel
theorem dX0_goesOver_21 : decode cX0_goesOver 21 = .ok (.getfield 15, 3) := by decide +kernel
theorem dX0_goesOver_24 : decode cX0_goesOver 24 = .ok (.aload_n 0, 1) := by decide +kernel
theorem dX0_goesOver_25 : decode cX0_goesOver 25 = .ok (.getfield 28, 3) := by decide +kernel
theorem dX0_goesOver_28 : decode cX0_goesOver 28 = .ok (.invokestatic 55, 3) := by decide +kernel
theorem dX0_goesOver_31 : decode cX0_goesOver 31 = .ok (.aload_n 0, 1) := by decide +kernel
theorem dX0_goesOver_32 : decode cX0_goesOver 32 = .ok (.getfield 31, 3) := by decide +kernel
theorem dX0_goesOver_35 : decode cX0_goesOver 35 = .ok (.aload_n 0, 1) := by decide +kernel
theorem dX0_goesOver_36 : decode cX0_goesOver 36 = .ok (.iload_n 1, 1) := by decide +kernel
theorem dX0_goesOver_37 : decode cX0_goesOver 37 = .ok (.invokevirtual 80, 3) := by decide +kernel
theorem dX0_goesOver_40 : decode cX0_goesOver 40 = .ok (.aload_n 0, 1) := by decide +kernel
theorem dX0_goesOver_41 : decode cX0_goesOver 41 = .ok (.getfield 40, 3) := by decide +kernel
theorem dX0_goesOver_44 : decode cX0_goesOver 44 = .ok (.invokestatic 59, 3) := by decide +kernel
theorem dX0_goesOver_47 : decode cX0_goesOver 47 = .ok (.istore_n 2, 1) := by decide +kernel
theorem dX0_goesOver_48 : decode cX0_goesOver 48 = .ok (.iload_n 2, 1) := by decide +kernel
theorem dX0_goesOver_49 : decode cX0_goesOver 49 = .ok (.aload_n 0, 1) := by decide +kernel
theorem dX0_goesOver_50 : decode cX0_goesOver 50 = .ok (.getfield 22, 3) := by decide +kernel
theorem dX0_goesOver_53 : decode cX0_goesOver 53 = .ok (.iload_n 1, 1) := by decide +kernel
theorem dX0_goesOver_54 : decode cX0_goesOver 54 = .ok (.aload_n 0, 1) := by decide +kernel
theorem dX0_goesOver_55 : decode cX0_goesOver 55 = .ok (.getfield 25, 3) := by decide +kernel
theorem dX0_goesOver_58 : decode cX0_goesOver 58 = .ok (.invokestatic 83, 3) := by decide +kernel
theorem dX0_goesOver_61 : decode cX0_goesOver 61 = .ok (.iadd, 1) := by decide +kernel
theorem dX0_goesOver_62 : decode cX0_goesOver 62 = .ok (.if_icmp .gt 7, 3) := by decide +kernel
theorem dX0_goesOver_65 : decode cX0_goesOver 65 = .ok (.iconst 1, 1) := by decide +kernel
theorem dX0_goesOver_66 : decode cX0_goesOver 66 = .ok (.goto 4, 3) := by decide +kernel
theorem dX0_goesOver_69 : decode cX0_goesOver 69 = .ok (.iconst 0, 1) := by decide +kernel
theorem dX0_goesOver_70 : decode cX0_goesOver 70 = .ok (.ireturn, 1) := by decide +kernel
set_option maxRecDepth 20000 in
theorem ggX0_strain_X0_coldAhead : GoodIn wsX0_strain wsX0_coldAhead := goodIn_r _ [14, 1, 3, 4, 5, 6, 18, 19, 20, 21, 22, 23, 24, 25, 26, 27, 28, 29] (by decide +kernel) (by decide +kernel)
set_option maxRecDepth 20000 in
theorem gX0_strain_X0_coldAhead : GoodIn wsX0_strain (wsV RX0 80 RX0 yX0_coldAhead wsX0_coldAhead) := goodIn_app (goodIn_of _ (by decide +kernel)) ggX0_strain_X0_coldAhead
set_option maxRecDepth 20000 in
theorem ggX0_strain_X2_at : GoodIn wsX0_strain wsX2_at := goodIn_r _ [17] (by decide +kernel) (by decide +kernel)
set_option maxRecDepth 20000 in
theorem gX0_strain_X2_at_n55 : GoodIn wsX0_strain (wsX2_at) := ggX0_strain_X2_at
theorem dX0_strain_0 : decode cX0_strain 0 = .ok (.aload_n 0, 1) := by decide +kernel
theorem dX0_strain_1 : decode cX0_strain 1 = .ok (.aload_n 0, 1) := by decide +kernel
theorem dX0_strain_2 : decode cX0_strain 2 = .ok (.iload_n 1, 1) := by decide +kernel
theorem dX0_strain_3 : decode cX0_strain 3 = .ok (.invokevirtual 80, 3) := by decide +kernel
theorem dX0_strain_6 : decode cX0_strain 6 = .ok (.putfield 34, 3) := by decide +kernel
theorem dX0_strain_9 : decode cX0_strain 9 = .ok (.aload_n 0, 1) := by decide +kernel
theorem dX0_strain_10 : decode cX0_strain 10 = .ok (.bipush 30, 2) := by decide +kernel
theorem dX0_strain_12 : decode cX0_strain 12 = .ok (.aload_n 0, 1) := by decide +kernel
theorem dX0_strain_13 : decode cX0_strain 13 = .ok (.getfield 31, 3) := by decide +kernel
theorem dX0_strain_16 : decode cX0_strain 16 = .ok (.getstatic 94, 3) := by decide +kernel
theorem dX0_strain_19 : decode cX0_strain 19 = .ok (.iload_n 1, 1) := by decide +kernel
theorem dX0_strain_20 : decode cX0_strain 20 = .ok (.invokestatic 55, 3) := by decide +kernel
theorem dX0_strain_23 : decode cX0_strain 23 = .ok (.iadd, 1) := by decide +kernel
theorem dX0_strain_24 : decode cX0_strain 24 = .ok (.invokestatic 73, 3) := by decide +kernel
theorem dX0_strain_27 : decode cX0_strain 27 = .ok (.putfield 31, 3) := by decide +kernel
theorem dX0_strain_30 : decode cX0_strain 30 = .ok (.aload_n 0, 1) := by decide +kernel
theorem dX0_strain_31 : decode cX0_strain 31 = .ok (.dup, 1) := by decide +kernel
theorem dX0_strain_32 : decode cX0_strain 32 = .ok (.getfield 46, 3) := by decide +kernel
theorem dX0_strain_35 : decode cX0_strain 35 = .ok (.getstatic 97, 3) := by decide +kernel
theorem dX0_strain_38 : decode cX0_strain 38 = .ok (.iload_n 1, 1) := by decide +kernel
theorem dX0_strain_39 : decode cX0_strain 39 = .ok (.invokestatic 55, 3) := by decide +kernel
theorem dX0_strain_42 : decode cX0_strain 42 = .ok (.iadd, 1) := by decide +kernel
theorem dX0_strain_43 : decode cX0_strain 43 = .ok (.putfield 46, 3) := by decide +kernel
theorem dX0_strain_46 : decode cX0_strain 46 = .ok (.aload_n 0, 1) := by decide +kernel
theorem dX0_strain_47 : decode cX0_strain 47 = .ok (.dup, 1) := by decide +kernel
theorem dX0_strain_48 : decode cX0_strain 48 = .ok (.getfield 43, 3) := by decide +kernel
theorem dX0_strain_51 : decode cX0_strain 51 = .ok (.getstatic 100, 3) := by decide +kernel
theorem dX0_strain_54 : decode cX0_strain 54 = .ok (.iload_n 1, 1) := by decide +kernel
theorem dX0_strain_55 : decode cX0_strain 55 = .ok (.invokestatic 55, 3) := by decide +kernel
theorem dX0_strain_58 : decode cX0_strain 58 = .ok (.iadd, 1) := by decide +kernel
theorem dX0_strain_59 : decode cX0_strain 59 = .ok (.putfield 43, 3) := by decide +kernel
theorem dX0_strain_62 : decode cX0_strain 62 = .ok (.iload_n 1, 1) := by decide +kernel
theorem dX0_strain_63 : decode cX0_strain 63 = .ok (.iconst 5, 1) := by decide +kernel
theorem dX0_strain_64 : decode cX0_strain 64 = .ok (.if_icmp .ne 18, 3) := by decide +kernel
theorem dX0_strain_67 : decode cX0_strain 67 = .ok (.aload_n 0, 1) := by decide +kernel
theorem dX0_strain_68 : decode cX0_strain 68 = .ok (.bipush 99, 2) := by decide +kernel
theorem dX0_strain_70 : decode cX0_strain 70 = .ok (.aload_n 0, 1) := by decide +kernel
theorem dX0_strain_71 : decode cX0_strain 71 = .ok (.getfield 37, 3) := by decide +kernel
theorem dX0_strain_74 : decode cX0_strain 74 = .ok (.iconst 5, 1) := by decide +kernel
theorem dX0_strain_75 : decode cX0_strain 75 = .ok (.iadd, 1) := by decide +kernel
theorem dX0_strain_76 : decode cX0_strain 76 = .ok (.invokestatic 73, 3) := by decide +kernel
theorem dX0_strain_79 : decode cX0_strain 79 = .ok (.putfield 37, 3) := by decide +kernel
theorem dX0_strain_82 : decode cX0_strain 82 = .ok (.return_, 1) := by decide +kernel
set_option maxRecDepth 20000 in
theorem ggX0_attempt_X0_goesOver : GoodIn wsX0_attempt wsX0_goesOver := goodIn_r _ [6, 7, 1, 8, 9, 10, 11, 12, 13, 14, 15, 5, 16, 17, 18, 19, 20, 21, 22, 23, 24, 25, 26, 27, 28, 29, 30, 31, 32, 33, 34, 35, 36, 44, 45, 46, 47, 48, 49, 50, 51, 52, 53, 54, 55] (by decide +kernel) (by decide +kernel)
set_option maxRecDepth 20000 in
theorem gX0_attempt_X0_goesOver : GoodIn wsX0_attempt (wsV RX0 90 RX0 yX0_goesOver wsX0_goesOver) := goodIn_app (goodIn_of _ (by decide +kernel)) ggX0_attempt_X0_goesOver
set_option maxRecDepth 20000 in
theorem ggX0_attempt_X0_strain : GoodIn wsX0_attempt wsX0_strain := goodIn_r _ [40, 25, 9, 26, 27, 28, 29, 41, 42, 43, 21, 22, 23, 5, 24, 18, 19, 20, 44, 45, 46, 47, 48, 49, 50, 51, 52, 53, 54, 55] (by decide +kernel) (by decide +kernel)
set_option maxRecDepth 20000 in
theorem gX0_attempt_X0_strain : GoodIn wsX0_attempt (wsV RX0 103 RX0 yX0_strain wsX0_strain) := goodIn_app (goodIn_of _ (by decide +kernel)) ggX0_attempt_X0_strain
theorem dX0_attempt_0 : decode cX0_attempt 0 = .ok (.aload_n 0, 1) := by decide +kernel
theorem dX0_attempt_1 : decode cX0_attempt 1 = .ok (.iload_n 1, 1) := by decide +kernel
theorem dX0_attempt_2 : decode cX0_attempt 2 = .ok (.invokevirtual 90, 3) := by decide +kernel
theorem dX0_attempt_5 : decode cX0_attempt 5 = .ok (.istore_n 2, 1) := by decide +kernel
theorem dX0_attempt_6 : decode cX0_attempt 6 = .ok (.aload_n 0, 1) := by decide +kernel
theorem dX0_attempt_7 : decode cX0_attempt 7 = .ok (.iload_n 1, 1) := by decide +kernel
theorem dX0_attempt_8 : decode cX0_attempt 8 = .ok (.invokevirtual 103, 3) := by decide +kernel
theorem dX0_attempt_11 : decode cX0_attempt 11 = .ok (.iload_n 2, 1) := by decide +kernel
theorem dX0_attempt_12 : decode cX0_attempt 12 = .ok (.ifCond .eq 13, 3) := by decide +kernel
theorem dX0_attempt_15 : decode cX0_attempt 15 = .ok (.aload_n 0, 1) := by decide +kernel
theorem dX0_attempt_16 : decode cX0_attempt 16 = .ok (.dup, 1) := by decide +kernel
theorem dX0_attempt_17 : decode cX0_attempt 17 = .ok (.getfield 28, 3) := by decide +kernel
theorem dX0_attempt_20 : decode cX0_attempt 20 = .ok (.iconst 1, 1) := by decide +kernel
theorem dX0_attempt_21 : decode cX0_attempt 21 = .ok (.iadd, 1) := by decide +kernel
theorem dX0_attempt_22 : decode cX0_attempt 22 = .ok (.putfield 28, 3) := by decide +kernel
theorem dX0_attempt_25 : decode cX0_attempt 25 = .ok (.iload_n 2, 1) := by decide +kernel
theorem dX0_attempt_26 : decode cX0_attempt 26 = .ok (.ireturn, 1) := by decide +kernel
theorem dX0_rest_0 : decode cX0_rest 0 = .ok (.aload_n 0, 1) := by decide +kernel
theorem dX0_rest_1 : decode cX0_rest 1 = .ok (.iconst 0, 1) := by decide +kernel
theorem dX0_rest_2 : decode cX0_rest 2 = .ok (.aload_n 0, 1) := by decide +kernel
theorem dX0_rest_3 : decode cX0_rest 3 = .ok (.getfield 31, 3) := by decide +kernel
theorem dX0_rest_6 : decode cX0_rest 6 = .ok (.iload_n 1, 1) := by decide +kernel
theorem dX0_rest_7 : decode cX0_rest 7 = .ok (.iconst 2, 1) := by decide +kernel
theorem dX0_rest_8 : decode cX0_rest 8 = .ok (.idiv, 1) := by decide +kernel
theorem dX0_rest_9 : decode cX0_rest 9 = .ok (.isub, 1) := by decide +kernel
theorem dX0_rest_10 : decode cX0_rest 10 = .ok (.invokestatic 67, 3) := by decide +kernel
theorem dX0_rest_13 : decode cX0_rest 13 = .ok (.putfield 31, 3) := by decide +kernel
theorem dX0_rest_16 : decode cX0_rest 16 = .ok (.aload_n 0, 1) := by decide +kernel
theorem dX0_rest_17 : decode cX0_rest 17 = .ok (.iconst 0, 1) := by decide +kernel
theorem dX0_rest_18 : decode cX0_rest 18 = .ok (.aload_n 0, 1) := by decide +kernel
theorem dX0_rest_19 : decode cX0_rest 19 = .ok (.getfield 34, 3) := by decide +kernel
theorem dX0_rest_22 : decode cX0_rest 22 = .ok (.iload_n 1, 1) := by decide +kernel
theorem dX0_rest_23 : decode cX0_rest 23 = .ok (.iconst 3, 1) := by decide +kernel
theorem dX0_rest_24 : decode cX0_rest 24 = .ok (.idiv, 1) := by decide +kernel
theorem dX0_rest_25 : decode cX0_rest 25 = .ok (.isub, 1) := by decide +kernel
theorem dX0_rest_26 : decode cX0_rest 26 = .ok (.invokestatic 67, 3) := by decide +kernel
theorem dX0_rest_29 : decode cX0_rest 29 = .ok (.putfield 34, 3) := by decide +kernel
theorem dX0_rest_32 : decode cX0_rest 32 = .ok (.aload_n 0, 1) := by decide +kernel
theorem dX0_rest_33 : decode cX0_rest 33 = .ok (.iconst 0, 1) := by decide +kernel
theorem dX0_rest_34 : decode cX0_rest 34 = .ok (.aload_n 0, 1) := by decide +kernel
theorem dX0_rest_35 : decode cX0_rest 35 = .ok (.getfield 37, 3) := by decide +kernel
theorem dX0_rest_38 : decode cX0_rest 38 = .ok (.iload_n 1, 1) := by decide +kernel
theorem dX0_rest_39 : decode cX0_rest 39 = .ok (.isub, 1) := by decide +kernel
theorem dX0_rest_40 : decode cX0_rest 40 = .ok (.invokestatic 67, 3) := by decide +kernel
theorem dX0_rest_43 : decode cX0_rest 43 = .ok (.putfield 37, 3) := by decide +kernel
theorem dX0_rest_46 : decode cX0_rest 46 = .ok (.aload_n 0, 1) := by decide +kernel
theorem dX0_rest_47 : decode cX0_rest 47 = .ok (.dup, 1) := by decide +kernel
theorem dX0_rest_48 : decode cX0_rest 48 = .ok (.getfield 43, 3) := by decide +kernel
theorem dX0_rest_51 : decode cX0_rest 51 = .ok (.iload_n 1, 1) := by decide +kernel
theorem dX0_rest_52 : decode cX0_rest 52 = .ok (.iadd, 1) := by decide +kernel
theorem dX0_rest_53 : decode cX0_rest 53 = .ok (.putfield 43, 3) := by decide +kernel
theorem dX0_rest_56 : decode cX0_rest 56 = .ok (.return_, 1) := by decide +kernel
theorem dX0_setting_0 : decode cX0_setting 0 = .ok (.iload_n 1, 1) := by decide +kernel
theorem dX0_setting_1 : decode cX0_setting 1 = .ok (.tableswitch 51 0 3 #[31, 36, 41, 46], 31) := by decide +kernel
theorem dX0_setting_32 : decode cX0_setting 32 = .ok (.aload_n 0, 1) := by decide +kernel
theorem dX0_setting_33 : decode cX0_setting 33 = .ok (.getfield 22, 3) := by decide +kernel
theorem dX0_setting_36 : decode cX0_setting 36 = .ok (.ireturn, 1) := by decide +kernel
theorem dX0_setting_37 : decode cX0_setting 37 = .ok (.aload_n 0, 1) := by decide +kernel
theorem dX0_setting_38 : decode cX0_setting 38 = .ok (.getfield 25, 3) := by decide +kernel
theorem dX0_setting_41 : decode cX0_setting 41 = .ok (.ireturn, 1) := by decide +kernel
theorem dX0_setting_42 : decode cX0_setting 42 = .ok (.aload_n 0, 1) := by decide +kernel
theorem dX0_setting_43 : decode cX0_setting 43 = .ok (.getfield 31, 3) := by decide +kernel
theorem dX0_setting_46 : decode cX0_setting 46 = .ok (.ireturn, 1) := by decide +kernel
theorem dX0_setting_47 : decode cX0_setting 47 = .ok (.aload_n 0, 1) := by decide +kernel
theorem dX0_setting_48 : decode cX0_setting 48 = .ok (.getfield 34, 3) := by decide +kernel
theorem dX0_setting_51 : decode cX0_setting 51 = .ok (.ireturn, 1) := by decide +kernel
theorem dX0_setting_52 : decode cX0_setting 52 = .ok (.aload_n 0, 1) := by decide +kernel
theorem dX0_setting_53 : decode cX0_setting 53 = .ok (.getfield 40, 3) := by decide +kernel
theorem dX0_setting_56 : decode cX0_setting 56 = .ok (.ireturn, 1) := by decide +kernel
theorem dX0_change_0 : decode cX0_change 0 = .ok (.iload_n 1, 1) := by decide +kernel
theorem dX0_change_1 : decode cX0_change 1 = .ok (.tableswitch 63 0 3 #[31, 39, 47, 55], 31) := by decide +kernel
theorem dX0_change_32 : decode cX0_change 32 = .ok (.aload_n 0, 1) := by decide +kernel
theorem dX0_change_33 : decode cX0_change 33 = .ok (.iload_n 2, 1) := by decide +kernel
theorem dX0_change_34 : decode cX0_change 34 = .ok (.putfield 22, 3) := by decide +kernel
theorem dX0_change_37 : decode cX0_change 37 = .ok (.goto 32, 3) := by decide +kernel
theorem dX0_change_40 : decode cX0_change 40 = .ok (.aload_n 0, 1) := by decide +kernel
theorem dX0_change_41 : decode cX0_change 41 = .ok (.iload_n 2, 1) := by decide +kernel
theorem dX0_change_42 : decode cX0_change 42 = .ok (.putfield 25, 3) := by decide +kernel
theorem dX0_change_45 : decode cX0_change 45 = .ok (.goto 24, 3) := by decide +kernel
theorem dX0_change_48 : decode cX0_change 48 = .ok (.aload_n 0, 1) := by decide +kernel
theorem dX0_change_49 : decode cX0_change 49 = .ok (.iload_n 2, 1) := by decide +kernel
theorem dX0_change_50 : decode cX0_change 50 = .ok (.putfield 31, 3) := by decide +kernel
theorem dX0_change_53 : decode cX0_change 53 = .ok (.goto 16, 3) := by decide +kernel
theorem dX0_change_56 : decode cX0_change 56 = .ok (.aload_n 0, 1) := by decide +kernel
theorem dX0_change_57 : decode cX0_change 57 = .ok (.iload_n 2, 1) := by decide +kernel
theorem dX0_change_58 : decode cX0_change 58 = .ok (.putfield 34, 3) := by decide +kernel
theorem dX0_change_61 : decode cX0_change 61 = .ok (.goto 8, 3) := by decide +kernel
theorem dX0_change_64 : decode cX0_change 64 = .ok (.aload_n 0, 1) := by decide +kernel
theorem dX0_change_65 : decode cX0_change 65 = .ok (.iload_n 2, 1) := by decide +kernel
theorem dX0_change_66 : decode cX0_change 66 = .ok (.putfield 40, 3) := by decide +kernel
theorem dX0_change_69 : decode cX0_change 69 = .ok (.return_, 1) := by decide +kernel
set_option maxRecDepth 20000 in
theorem ggX0_takeSetting_X2_at : GoodIn wsX0_takeSetting wsX2_at := goodIn_r _ [3] (by decide +kernel) (by decide +kernel)
set_option maxRecDepth 20000 in
theorem gX0_takeSetting_X2_at_n55 : GoodIn wsX0_takeSetting (wsX2_at) := ggX0_takeSetting_X2_at
set_option maxRecDepth 20000 in
theorem ggX0_takeSetting_X0_change : GoodIn wsX0_takeSetting wsX0_change := goodIn_r _ [8, 9, 10, 11, 12, 13, 14, 15, 16, 17, 18, 19, 20, 21, 22, 23, 24, 25] (by decide +kernel) (by decide +kernel)
set_option maxRecDepth 20000 in
theorem gX0_takeSetting_X0_change : GoodIn wsX0_takeSetting (wsV RX0 122 RX0 yX0_change wsX0_change) := goodIn_app (goodIn_of _ (by decide +kernel)) ggX0_takeSetting_X0_change
theorem dX0_takeSetting_0 : decode cX0_takeSetting 0 = .ok (.iload_n 2, 1) := by decide +kernel
theorem dX0_takeSetting_1 : decode cX0_takeSetting 1 = .ok (.getstatic 116, 3) := by decide +kernel
theorem dX0_takeSetting_4 : decode cX0_takeSetting 4 = .ok (.iload_n 1, 1) := by decide +kernel
theorem dX0_takeSetting_5 : decode cX0_takeSetting 5 = .ok (.invokestatic 55, 3) := by decide +kernel
theorem dX0_takeSetting_8 : decode cX0_takeSetting 8 = .ok (.if_icmp .lt 14, 3) := by decide +kernel
theorem dX0_takeSetting_11 : decode cX0_takeSetting 11 = .ok (.iload_n 2, 1) := by decide +kernel
theorem dX0_takeSetting_12 : decode cX0_takeSetting 12 = .ok (.getstatic 119, 3) := by decide +kernel
theorem dX0_takeSetting_15 : decode cX0_takeSetting 15 = .ok (.iload_n 1, 1) := by decide +kernel
theorem dX0_takeSetting_16 : decode cX0_takeSetting 16 = .ok (.invokestatic 55, 3) := by decide +kernel
theorem dX0_takeSetting_19 : decode cX0_takeSetting 19 = .ok (.if_icmp .le 5, 3) := by decide +kernel
theorem dX0_takeSetting_22 : decode cX0_takeSetting 22 = .ok (.iconst 0, 1) := by decide +kernel
theorem dX0_takeSetting_23 : decode cX0_takeSetting 23 = .ok (.ireturn, 1) := by decide +kernel
theorem dX0_takeSetting_24 : decode cX0_takeSetting 24 = .ok (.aload_n 0, 1) := by decide +kernel
theorem dX0_takeSetting_25 : decode cX0_takeSetting 25 = .ok (.iload_n 1, 1) := by decide +kernel
theorem dX0_takeSetting_26 : decode cX0_takeSetting 26 = .ok (.iload_n 2, 1) := by decide +kernel
theorem dX0_takeSetting_27 : decode cX0_takeSetting 27 = .ok (.invokevirtual 122, 3) := by decide +kernel
theorem dX0_takeSetting_30 : decode cX0_takeSetting 30 = .ok (.iconst 1, 1) := by decide +kernel
theorem dX0_takeSetting_31 : decode cX0_takeSetting 31 = .ok (.ireturn, 1) := by decide +kernel
set_option maxRecDepth 20000 in
theorem ggX0_takePart_X0_isOff : GoodIn wsX0_takePart wsX0_isOff := goodIn_r _ [8, 9, 1, 13, 14, 15, 16, 17, 18, 19, 20, 21, 22, 23, 24] (by decide +kernel) (by decide +kernel)
set_option maxRecDepth 20000 in
theorem gX0_takePart_X0_isOff : GoodIn wsX0_takePart (wsV RX0 76 RX0 yX0_isOff wsX0_isOff) := goodIn_app (goodIn_of _ (by decide +kernel)) ggX0_takePart_X0_isOff
set_option maxRecDepth 20000 in
theorem ggX0_takePart_X2_put : GoodIn wsX0_takePart wsX2_put := goodIn_r _ [12] (by decide +kernel) (by decide +kernel)
set_option maxRecDepth 20000 in
theorem gX0_takePart_X2_put_n86 : GoodIn wsX0_takePart (wsX2_put) := ggX0_takePart_X2_put
theorem dX0_takePart_0 : decode cX0_takePart 0 = .ok (.aload_n 0, 1) := by decide +kernel
theorem dX0_takePart_1 : decode cX0_takePart 1 = .ok (.getfield 18, 3) := by decide +kernel
theorem dX0_takePart_4 : decode cX0_takePart 4 = .ok (.ifCond .le 14, 3) := by decide +kernel
theorem dX0_takePart_7 : decode cX0_takePart 7 = .ok (.aload_n 0, 1) := by decide +kernel
theorem dX0_takePart_8 : decode cX0_takePart 8 = .ok (.invokevirtual 76, 3) := by decide +kernel
theorem dX0_takePart_11 : decode cX0_takePart 11 = .ok (.ifCond .eq 7, 3) := by decide +kernel
theorem dX0_takePart_14 : decode cX0_takePart 14 = .ok (.iconst 1, 1) := by decide +kernel
theorem dX0_takePart_15 : decode cX0_takePart 15 = .ok (.goto 4, 3) := by decide +kernel
theorem dX0_takePart_18 : decode cX0_takePart 18 = .ok (.iconst 0, 1) := by decide +kernel
theorem dX0_takePart_19 : decode cX0_takePart 19 = .ok (.istore_n 3, 1) := by decide +kernel
theorem dX0_takePart_20 : decode cX0_takePart 20 = .ok (.iload_n 2, 1) := by decide +kernel
theorem dX0_takePart_21 : decode cX0_takePart 21 = .ok (.sipush 240, 3) := by decide +kernel
theorem dX0_takePart_24 : decode cX0_takePart 24 = .ok (.if_icmp .gt 16, 3) := by decide +kernel
theorem dX0_takePart_27 : decode cX0_takePart 27 = .ok (.iload_n 3, 1) := by decide +kernel
theorem dX0_takePart_28 : decode cX0_takePart 28 = .ok (.ifCond .ne 12, 3) := by decide +kernel
theorem dX0_takePart_31 : decode cX0_takePart 31 = .ok (.aload_n 0, 1) := by decide +kernel
theorem dX0_takePart_32 : decode cX0_takePart 32 = .ok (.getfield 18, 3) := by decide +kernel
theorem dX0_takePart_35 : decode cX0_takePart 35 = .ok (.bipush 6, 2) := by decide +kernel
theorem dX0_takePart_37 : decode cX0_takePart 37 = .ok (.if_icmp .lt 5, 3) := by decide +kernel
theorem dX0_takePart_40 : decode cX0_takePart 40 = .ok (.iconst 0, 1) := by decide +kernel
theorem dX0_takePart_41 : decode cX0_takePart 41 = .ok (.ireturn, 1) := by decide +kernel
theorem dX0_takePart_42 : decode cX0_takePart 42 = .ok (.aload_n 0, 1) := by decide +kernel
theorem dX0_takePart_43 : decode cX0_takePart 43 = .ok (.getfield 9, 3) := by decide +kernel
theorem dX0_takePart_46 : decode cX0_takePart 46 = .ok (.aload_n 0, 1) := by decide +kernel
theorem dX0_takePart_47 : decode cX0_takePart 47 = .ok (.getfield 18, 3) := by decide +kernel
theorem dX0_takePart_50 : decode cX0_takePart 50 = .ok (.iload_n 1, 1) := by decide +kernel
theorem dX0_takePart_51 : decode cX0_takePart 51 = .ok (.invokestatic 86, 3) := by decide +kernel
theorem dX0_takePart_54 : decode cX0_takePart 54 = .ok (.aload_n 0, 1) := by decide +kernel
theorem dX0_takePart_55 : decode cX0_takePart 55 = .ok (.getfield 15, 3) := by decide +kernel
theorem dX0_takePart_58 : decode cX0_takePart 58 = .ok (.aload_n 0, 1) := by decide +kernel
theorem dX0_takePart_59 : decode cX0_takePart 59 = .ok (.getfield 18, 3) := by decide +kernel
theorem dX0_takePart_62 : decode cX0_takePart 62 = .ok (.iload_n 2, 1) := by decide +kernel
theorem dX0_takePart_63 : decode cX0_takePart 63 = .ok (.invokestatic 86, 3) := by decide +kernel
theorem dX0_takePart_66 : decode cX0_takePart 66 = .ok (.aload_n 0, 1) := by decide +kernel
theorem dX0_takePart_67 : decode cX0_takePart 67 = .ok (.dup, 1) := by decide +kernel
theorem dX0_takePart_68 : decode cX0_takePart 68 = .ok (.getfield 18, 3) := by decide +kernel
theorem dX0_takePart_71 : decode cX0_takePart 71 = .ok (.iconst 1, 1) := by decide +kernel
theorem dX0_takePart_72 : decode cX0_takePart 72 = .ok (.iadd, 1) := by decide +kernel
theorem dX0_takePart_73 : decode cX0_takePart 73 = .ok (.putfield 18, 3) := by decide +kernel
theorem dX0_takePart_76 : decode cX0_takePart 76 = .ok (.iconst 1, 1) := by decide +kernel
theorem dX0_takePart_77 : decode cX0_takePart 77 = .ok (.ireturn, 1) := by decide +kernel
set_option maxRecDepth 20000 in
theorem ggX0_takeTry_X2_isTry : GoodIn wsX0_takeTry wsX2_isTry := goodIn_r _ [3] (by decide +kernel) (by decide +kernel)
set_option maxRecDepth 20000 in
theorem gX0_takeTry_X2_isTry_n107 : GoodIn wsX0_takeTry (wsX2_isTry) := ggX0_takeTry_X2_isTry
set_option maxRecDepth 20000 in
theorem ggX0_takeTry_X0_isOff : GoodIn wsX0_takeTry wsX0_isOff := goodIn_r _ [8, 9, 10, 54, 55, 56, 57, 58, 59, 60, 61, 62, 63, 64, 65] (by decide +kernel) (by decide +kernel)
set_option maxRecDepth 20000 in
theorem gX0_takeTry_X0_isOff : GoodIn wsX0_takeTry (wsV RX0 76 RX0 yX0_isOff wsX0_isOff) := goodIn_app (goodIn_of _ (by decide +kernel)) ggX0_takeTry_X0_isOff
set_option maxRecDepth 20000 in
theorem ggX0_takeTry_X2_at : GoodIn wsX0_takeTry wsX2_at := goodIn_r _ [12] (by decide +kernel) (by decide +kernel)
set_option maxRecDepth 20000 in
theorem gX0_takeTry_X2_at_n55 : GoodIn wsX0_takeTry (wsX2_at) := ggX0_takeTry_X2_at
set_option maxRecDepth 20000 in
theorem ggX0_takeTry_X0_hasMinutes : GoodIn wsX0_takeTry wsX0_hasMinutes := goodIn_r _ [16, 17, 54, 55, 56, 57, 58, 59, 60, 61, 62, 63, 64, 65] (by decide +kernel) (by decide +kernel)
set_option maxRecDepth 20000 in
theorem gX0_takeTry_X0_hasMinutes : GoodIn wsX0_takeTry (wsV RX0 126 RX0 yX0_hasMinutes wsX0_hasMinutes) := goodIn_app (goodIn_of _ (by decide +kernel)) ggX0_takeTry_X0_hasMinutes
set_option maxRecDepth 20000 in
theorem ggX0_takeTry_X0_attempt : GoodIn wsX0_takeTry wsX0_attempt := goodIn_r _ [21, 9, 22, 23, 24, 7, 25, 26, 27, 28, 29, 30, 31, 4, 5, 6, 8, 10, 11, 2, 12, 32, 33, 34, 35, 36, 37, 38, 39, 40, 41, 42, 43, 44, 45, 46, 47, 48, 49, 50, 51, 52, 17, 53, 54, 55, 56, 57, 58, 59, 60, 61, 62, 63, 64, 65] (by decide +kernel) (by decide +kernel)
set_option maxRecDepth 20000 in
theorem gX0_takeTry_X0_attempt : GoodIn wsX0_takeTry (wsV RX0 110 RX0 yX0_attempt wsX0_attempt) := goodIn_app (goodIn_of _ (by decide +kernel)) ggX0_takeTry_X0_attempt
theorem dX0_takeTry_0 : decode cX0_takeTry 0 = .ok (.iload_n 1, 1) := by decide +kernel
theorem dX0_takeTry_1 : decode cX0_takeTry 1 = .ok (.invokestatic 107, 3) := by decide +kernel
theorem dX0_takeTry_4 : decode cX0_takeTry 4 = .ok (.ifCond .eq 24, 3) := by decide +kernel
theorem dX0_takeTry_7 : decode cX0_takeTry 7 = .ok (.aload_n 0, 1) := by decide +kernel
theorem dX0_takeTry_8 : decode cX0_takeTry 8 = .ok (.invokevirtual 76, 3) := by decide +kernel
theorem dX0_takeTry_11 : decode cX0_takeTry 11 = .ok (.ifCond .ne 17, 3) := by decide +kernel
theorem dX0_takeTry_14 : decode cX0_takeTry 14 = .ok (.aload_n 0, 1) := by decide +kernel
theorem dX0_takeTry_15 : decode cX0_takeTry 15 = .ok (.getstatic 100, 3) := by decide +kernel
theorem dX0_takeTry_18 : decode cX0_takeTry 18 = .ok (.iload_n 1, 1) := by decide +kernel
theorem dX0_takeTry_19 : decode cX0_takeTry 19 = .ok (.invokestatic 55, 3) := by decide +kernel
theorem dX0_takeTry_22 : decode cX0_takeTry 22 = .ok (.invokevirtual 126, 3) := by decide +kernel
theorem dX0_takeTry_25 : decode cX0_takeTry 25 = .ok (.ifCond .ne 5, 3) := by decide +kernel
theorem dX0_takeTry_28 : decode cX0_takeTry 28 = .ok (.iconst 0, 1) := by decide +kernel
theorem dX0_takeTry_29 : decode cX0_takeTry 29 = .ok (.ireturn, 1) := by decide +kernel
theorem dX0_takeTry_30 : decode cX0_takeTry 30 = .ok (.aload_n 0, 1) := by decide +kernel
theorem dX0_takeTry_31 : decode cX0_takeTry 31 = .ok (.iload_n 1, 1) := by decide +kernel
theorem dX0_takeTry_32 : decode cX0_takeTry 32 = .ok (.invokevirtual 110, 3) := by decide +kernel
theorem dX0_takeTry_35 : decode cX0_takeTry 35 = .ok (.pop, 1) := by decide +kernel
theorem dX0_takeTry_36 : decode cX0_takeTry 36 = .ok (.iconst 1, 1) := by decide +kernel
theorem dX0_takeTry_37 : decode cX0_takeTry 37 = .ok (.ireturn, 1) := by decide +kernel
set_option maxRecDepth 20000 in
theorem ggX0_takeWait_X0_hasMinutes : GoodIn wsX0_takeWait wsX0_hasMinutes := goodIn_r _ [5, 6, 18, 19, 20, 21, 22, 23, 24, 25, 26, 27, 28, 29] (by decide +kernel) (by decide +kernel)
set_option maxRecDepth 20000 in
theorem gX0_takeWait_X0_hasMinutes : GoodIn wsX0_takeWait (wsV RX0 126 RX0 yX0_hasMinutes wsX0_hasMinutes) := goodIn_app (goodIn_of _ (by decide +kernel)) ggX0_takeWait_X0_hasMinutes
set_option maxRecDepth 20000 in
theorem ggX0_takeWait_X0_rest : GoodIn wsX0_takeWait wsX0_rest := goodIn_r _ [10, 11, 12, 13, 14, 15, 16, 17, 6, 18, 19, 20, 21, 22, 23, 24, 25, 26, 27, 28, 29] (by decide +kernel) (by decide +kernel)
set_option maxRecDepth 20000 in
theorem gX0_takeWait_X0_rest : GoodIn wsX0_takeWait (wsV RX0 113 RX0 yX0_rest wsX0_rest) := goodIn_app (goodIn_of _ (by decide +kernel)) ggX0_takeWait_X0_rest
theorem dX0_takeWait_0 : decode cX0_takeWait 0 = .ok (.iload_n 1, 1) := by decide +kernel
theorem dX0_takeWait_1 : decode cX0_takeWait 1 = .ok (.iconst 1, 1) := by decide +kernel
theorem dX0_takeWait_2 : decode cX0_takeWait 2 = .ok (.if_icmp .lt 17, 3) := by decide +kernel
theorem dX0_takeWait_5 : decode cX0_takeWait 5 = .ok (.iload_n 1, 1) := by decide +kernel
theorem dX0_takeWait_6 : decode cX0_takeWait 6 = .ok (.bipush 60, 2) := by decide +kernel
theorem dX0_takeWait_8 : decode cX0_takeWait 8 = .ok (.if_icmp .gt 11, 3) := by decide +kernel
theorem dX0_takeWait_11 : decode cX0_takeWait 11 = .ok (.aload_n 0, 1) := by decide +kernel
theorem dX0_takeWait_12 : decode cX0_takeWait 12 = .ok (.iload_n 1, 1) := by decide +kernel
theorem dX0_takeWait_13 : decode cX0_takeWait 13 = .ok (.invokevirtual 126, 3) := by decide +kernel
theorem dX0_takeWait_16 : decode cX0_takeWait 16 = .ok (.ifCond .ne 5, 3) := by decide +kernel
theorem dX0_takeWait_19 : decode cX0_takeWait 19 = .ok (.iconst 0, 1) := by decide +kernel
theorem dX0_takeWait_20 : decode cX0_takeWait 20 = .ok (.ireturn, 1) := by decide +kernel
theorem dX0_takeWait_21 : decode cX0_takeWait 21 = .ok (.aload_n 0, 1) := by decide +kernel
theorem dX0_takeWait_22 : decode cX0_takeWait 22 = .ok (.iload_n 1, 1) := by decide +kernel
theorem dX0_takeWait_23 : decode cX0_takeWait 23 = .ok (.invokevirtual 113, 3) := by decide +kernel
theorem dX0_takeWait_26 : decode cX0_takeWait 26 = .ok (.iconst 1, 1) := by decide +kernel
theorem dX0_takeWait_27 : decode cX0_takeWait 27 = .ok (.ireturn, 1) := by decide +kernel
set_option maxRecDepth 20000 in
theorem ggX1_init_X0_init : GoodIn wsX1_init wsX0_init := goodIn_r _ [16, 17, 2, 3, 8, 18, 19, 20, 21, 22, 23, 24, 25, 26, 27, 28, 29, 30, 31, 32, 33, 34, 35, 36, 37, 38, 39, 40, 41] (by decide +kernel) (by decide +kernel)
set_option maxRecDepth 20000 in
theorem gX1_init_X0_init_n13 : GoodIn wsX1_init (wsX0_init) := ggX1_init_X0_init
theorem dX1_init_0 : decode cX1_init 0 = .ok (.aload_n 0, 1) := by decide +kernel
theorem dX1_init_1 : decode cX1_init 1 = .ok (.invokespecial 5, 3) := by decide +kernel
theorem dX1_init_4 : decode cX1_init 4 = .ok (.aload_n 0, 1) := by decide +kernel
theorem dX1_init_5 : decode cX1_init 5 = .ok (.new 11, 3) := by decide +kernel
theorem dX1_init_8 : decode cX1_init 8 = .ok (.dup, 1) := by decide +kernel
theorem dX1_init_9 : decode cX1_init 9 = .ok (.invokespecial 13, 3) := by decide +kernel
theorem dX1_init_12 : decode cX1_init 12 = .ok (.putfield 14, 3) := by decide +kernel
theorem dX1_init_15 : decode cX1_init 15 = .ok (.aload_n 0, 1) := by decide +kernel
theorem dX1_init_16 : decode cX1_init 16 = .ok (.sipush 5022, 3) := by decide +kernel
theorem dX1_init_19 : decode cX1_init 19 = .ok (.newarray .int, 2) := by decide +kernel
theorem dX1_init_21 : decode cX1_init 21 = .ok (.putfield 18, 3) := by decide +kernel
theorem dX1_init_24 : decode cX1_init 24 = .ok (.aload_n 0, 1) := by decide +kernel
theorem dX1_init_25 : decode cX1_init 25 = .ok (.bipush 9, 2) := by decide +kernel
theorem dX1_init_27 : decode cX1_init 27 = .ok (.newarray .int, 2) := by decide +kernel
theorem dX1_init_29 : decode cX1_init 29 = .ok (.putfield 22, 3) := by decide +kernel
theorem dX1_init_32 : decode cX1_init 32 = .ok (.aload_n 0, 1) := by decide +kernel
theorem dX1_init_33 : decode cX1_init 33 = .ok (.sipush 558, 3) := by decide +kernel
theorem dX1_init_36 : decode cX1_init 36 = .ok (.newarray .int, 2) := by decide +kernel
theorem dX1_init_38 : decode cX1_init 38 = .ok (.putfield 25, 3) := by decide +kernel
theorem dX1_init_41 : decode cX1_init 41 = .ok (.aload_n 0, 1) := by decide +kernel
theorem dX1_init_42 : decode cX1_init 42 = .ok (.iconst 0, 1) := by decide +kernel
theorem dX1_init_43 : decode cX1_init 43 = .ok (.putfield 28, 3) := by decide +kernel
theorem dX1_init_46 : decode cX1_init 46 = .ok (.aload_n 0, 1) := by decide +kernel
theorem dX1_init_47 : decode cX1_init 47 = .ok (.iconst 0, 1) := by decide +kernel
theorem dX1_init_48 : decode cX1_init 48 = .ok (.putfield 32, 3) := by decide +kernel
theorem dX1_init_51 : decode cX1_init 51 = .ok (.aload_n 0, 1) := by decide +kernel
theorem dX1_init_52 : decode cX1_init 52 = .ok (.iconst 0, 1) := by decide +kernel
theorem dX1_init_53 : decode cX1_init 53 = .ok (.putfield 35, 3) := by decide +kernel
theorem dX1_init_56 : decode cX1_init 56 = .ok (.return_, 1) := by decide +kernel
