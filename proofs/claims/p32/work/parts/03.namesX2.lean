set_option maxRecDepth 20000 in
theorem ggX2_init_X0_init : GoodIn wsX2_init wsX0_init := goodIn_r _ [24, 25, 2, 3, 14, 26, 27, 28, 29, 30, 31, 32, 33, 34, 35, 36, 37, 49, 50, 51, 52, 53, 54, 55, 56, 57, 58, 59, 60] (by decide +kernel) (by decide +kernel)
set_option maxRecDepth 20000 in
theorem gX2_init_X0_init_n9 : GoodIn wsX2_init (wsX0_init) := ggX2_init_X0_init
set_option maxRecDepth 20000 in
theorem ggX2_init_X1_init : GoodIn wsX2_init wsX1_init := goodIn_r _ [39, 40, 2, 3, 41, 5, 6, 42, 14, 43, 44, 45, 46, 47, 48, 23, 24, 25, 26, 27, 28, 29, 30, 31, 32, 33, 34, 35, 36, 37, 49, 50, 51, 52, 53, 54, 55, 56, 57, 58, 59, 60, 73, 74, 75, 76, 77, 78, 79] (by decide +kernel) (by decide +kernel)
set_option maxRecDepth 20000 in
theorem gX2_init_X1_init_n24 : GoodIn wsX2_init (wsX1_init) := ggX2_init_X1_init
theorem dX2_init_0 : decode cX2_init 0 = .ok (.aload_n 0, 1) := by decide +kernel
theorem dX2_init_1 : decode cX2_init 1 = .ok (.invokespecial 1, 3) := by decide +kernel
theorem dX2_init_4 : decode cX2_init 4 = .ok (.aload_n 0, 1) := by decide +kernel
theorem dX2_init_5 : decode cX2_init 5 = .ok (.new 7, 3) := by decide +kernel
theorem dX2_init_8 : decode cX2_init 8 = .ok (.dup, 1) := by decide +kernel
theorem dX2_init_9 : decode cX2_init 9 = .ok (.invokespecial 9, 3) := by decide +kernel
theorem dX2_init_12 : decode cX2_init 12 = .ok (.putfield 10, 3) := by decide +kernel
theorem dX2_init_15 : decode cX2_init 15 = .ok (.aload_n 0, 1) := by decide +kernel
theorem dX2_init_16 : decode cX2_init 16 = .ok (.new 7, 3) := by decide +kernel
theorem dX2_init_19 : decode cX2_init 19 = .ok (.dup, 1) := by decide +kernel
theorem dX2_init_20 : decode cX2_init 20 = .ok (.invokespecial 9, 3) := by decide +kernel
theorem dX2_init_23 : decode cX2_init 23 = .ok (.putfield 16, 3) := by decide +kernel
theorem dX2_init_26 : decode cX2_init 26 = .ok (.aload_n 0, 1) := by decide +kernel
theorem dX2_init_27 : decode cX2_init 27 = .ok (.new 7, 3) := by decide +kernel
theorem dX2_init_30 : decode cX2_init 30 = .ok (.dup, 1) := by decide +kernel
theorem dX2_init_31 : decode cX2_init 31 = .ok (.invokespecial 9, 3) := by decide +kernel
theorem dX2_init_34 : decode cX2_init 34 = .ok (.putfield 19, 3) := by decide +kernel
theorem dX2_init_37 : decode cX2_init 37 = .ok (.aload_n 0, 1) := by decide +kernel
theorem dX2_init_38 : decode cX2_init 38 = .ok (.new 22, 3) := by decide +kernel
theorem dX2_init_41 : decode cX2_init 41 = .ok (.dup, 1) := by decide +kernel
theorem dX2_init_42 : decode cX2_init 42 = .ok (.invokespecial 24, 3) := by decide +kernel
theorem dX2_init_45 : decode cX2_init 45 = .ok (.putfield 25, 3) := by decide +kernel
theorem dX2_init_48 : decode cX2_init 48 = .ok (.aload_n 0, 1) := by decide +kernel
theorem dX2_init_49 : decode cX2_init 49 = .ok (.bipush 96, 2) := by decide +kernel
theorem dX2_init_51 : decode cX2_init 51 = .ok (.newarray .int, 2) := by decide +kernel
theorem dX2_init_53 : decode cX2_init 53 = .ok (.putfield 29, 3) := by decide +kernel
theorem dX2_init_56 : decode cX2_init 56 = .ok (.aload_n 0, 1) := by decide +kernel
theorem dX2_init_57 : decode cX2_init 57 = .ok (.bipush 12, 2) := by decide +kernel
theorem dX2_init_59 : decode cX2_init 59 = .ok (.newarray .int, 2) := by decide +kernel
theorem dX2_init_61 : decode cX2_init 61 = .ok (.putfield 33, 3) := by decide +kernel
theorem dX2_init_64 : decode cX2_init 64 = .ok (.aload_n 0, 1) := by decide +kernel
theorem dX2_init_65 : decode cX2_init 65 = .ok (.bipush 12, 2) := by decide +kernel
theorem dX2_init_67 : decode cX2_init 67 = .ok (.newarray .int, 2) := by decide +kernel
theorem dX2_init_69 : decode cX2_init 69 = .ok (.putfield 36, 3) := by decide +kernel
theorem dX2_init_72 : decode cX2_init 72 = .ok (.aload_n 0, 1) := by decide +kernel
theorem dX2_init_73 : decode cX2_init 73 = .ok (.bipush 7, 2) := by decide +kernel
theorem dX2_init_75 : decode cX2_init 75 = .ok (.newarray .int, 2) := by decide +kernel
theorem dX2_init_77 : decode cX2_init 77 = .ok (.putfield 39, 3) := by decide +kernel
theorem dX2_init_80 : decode cX2_init 80 = .ok (.aload_n 0, 1) := by decide +kernel
theorem dX2_init_81 : decode cX2_init 81 = .ok (.iconst 0, 1) := by decide +kernel
theorem dX2_init_82 : decode cX2_init 82 = .ok (.putfield 42, 3) := by decide +kernel
theorem dX2_init_85 : decode cX2_init 85 = .ok (.aload_n 0, 1) := by decide +kernel
theorem dX2_init_86 : decode cX2_init 86 = .ok (.iconst 0, 1) := by decide +kernel
theorem dX2_init_87 : decode cX2_init 87 = .ok (.putfield 46, 3) := by decide +kernel
theorem dX2_init_90 : decode cX2_init 90 = .ok (.aload_n 0, 1) := by decide +kernel
theorem dX2_init_91 : decode cX2_init 91 = .ok (.iconst 0, 1) := by decide +kernel
theorem dX2_init_92 : decode cX2_init 92 = .ok (.putfield 49, 3) := by decide +kernel
theorem dX2_init_95 : decode cX2_init 95 = .ok (.aload_n 0, 1) := by decide +kernel
theorem dX2_init_96 : decode cX2_init 96 = .ok (.iconst 0, 1) := by decide +kernel
theorem dX2_init_97 : decode cX2_init 97 = .ok (.putfield 53, 3) := by decide +kernel
theorem dX2_init_100 : decode cX2_init 100 = .ok (.return_, 1) := by decide +kernel
set_option maxRecDepth 20000 in
theorem ggX2_letter_X2_refuse : GoodIn wsX2_letter wsX2_refuse := goodIn_r _ [7, 8, 9, 10, 6, 11, 12, 13, 14, 15, 16, 17, 18, 19, 20, 21, 22, 23, 24, 25, 26] (by decide +kernel) (by decide +kernel)
set_option maxRecDepth 20000 in
theorem gX2_letter_X2_refuse : GoodIn wsX2_letter (wsV RX2 56 RX2 yX2_refuse wsX2_refuse) := goodIn_app (goodIn_of _ (by decide +kernel)) ggX2_letter_X2_refuse
set_option maxRecDepth 20000 in
theorem ggX2_letter_X2_put : GoodIn wsX2_letter wsX2_put := goodIn_r _ [14] (by decide +kernel) (by decide +kernel)
set_option maxRecDepth 20000 in
theorem gX2_letter_X2_put : GoodIn wsX2_letter (va_wsS RX2 60 yX2_put wsX2_put) := goodIn_app (goodIn_of _ (by decide +kernel)) ggX2_letter_X2_put
theorem dX2_letter_0 : decode cX2_letter 0 = .ok (.iload_n 1, 1) := by decide +kernel
theorem dX2_letter_1 : decode cX2_letter 1 = .ok (.ifCond .ge 10, 3) := by decide +kernel
theorem dX2_letter_4 : decode cX2_letter 4 = .ok (.aload_n 0, 1) := by decide +kernel
theorem dX2_letter_5 : decode cX2_letter 5 = .ok (.bipush (-4), 2) := by decide +kernel
theorem dX2_letter_7 : decode cX2_letter 7 = .ok (.invokevirtual 56, 3) := by decide +kernel
theorem dX2_letter_10 : decode cX2_letter 10 = .ok (.ireturn, 1) := by decide +kernel
theorem dX2_letter_11 : decode cX2_letter 11 = .ok (.iload_n 1, 1) := by decide +kernel
theorem dX2_letter_12 : decode cX2_letter 12 = .ok (.sipush 255, 3) := by decide +kernel
theorem dX2_letter_15 : decode cX2_letter 15 = .ok (.if_icmp .gt 12, 3) := by decide +kernel
theorem dX2_letter_18 : decode cX2_letter 18 = .ok (.aload_n 0, 1) := by decide +kernel
theorem dX2_letter_19 : decode cX2_letter 19 = .ok (.getfield 42, 3) := by decide +kernel
theorem dX2_letter_22 : decode cX2_letter 22 = .ok (.bipush 96, 2) := by decide +kernel
theorem dX2_letter_24 : decode cX2_letter 24 = .ok (.if_icmp .lt 10, 3) := by decide +kernel
theorem dX2_letter_27 : decode cX2_letter 27 = .ok (.aload_n 0, 1) := by decide +kernel
theorem dX2_letter_28 : decode cX2_letter 28 = .ok (.bipush (-6), 2) := by decide +kernel
theorem dX2_letter_30 : decode cX2_letter 30 = .ok (.invokevirtual 56, 3) := by decide +kernel
theorem dX2_letter_33 : decode cX2_letter 33 = .ok (.ireturn, 1) := by decide +kernel
theorem dX2_letter_34 : decode cX2_letter 34 = .ok (.aload_n 0, 1) := by decide +kernel
theorem dX2_letter_35 : decode cX2_letter 35 = .ok (.getfield 29, 3) := by decide +kernel
theorem dX2_letter_38 : decode cX2_letter 38 = .ok (.aload_n 0, 1) := by decide +kernel
theorem dX2_letter_39 : decode cX2_letter 39 = .ok (.getfield 42, 3) := by decide +kernel
theorem dX2_letter_42 : decode cX2_letter 42 = .ok (.iload_n 1, 1) := by decide +kernel
theorem dX2_letter_43 : decode cX2_letter 43 = .ok (.invokestatic 60, 3) := by decide +kernel
theorem dX2_letter_46 : decode cX2_letter 46 = .ok (.aload_n 0, 1) := by decide +kernel
theorem dX2_letter_47 : decode cX2_letter 47 = .ok (.dup, 1) := by decide +kernel
theorem dX2_letter_48 : decode cX2_letter 48 = .ok (.getfield 42, 3) := by decide +kernel
theorem dX2_letter_51 : decode cX2_letter 51 = .ok (.iconst 1, 1) := by decide +kernel
theorem dX2_letter_52 : decode cX2_letter 52 = .ok (.iadd, 1) := by decide +kernel
theorem dX2_letter_53 : decode cX2_letter 53 = .ok (.putfield 42, 3) := by decide +kernel
theorem dX2_letter_56 : decode cX2_letter 56 = .ok (.aload_n 0, 1) := by decide +kernel
theorem dX2_letter_57 : decode cX2_letter 57 = .ok (.getfield 42, 3) := by decide +kernel
theorem dX2_letter_60 : decode cX2_letter 60 = .ok (.ireturn, 1) := by decide +kernel
set_option maxRecDepth 20000 in
theorem ggX2_hand_X2_formFault : GoodIn wsX2_hand wsX2_formFault := goodIn_r _ [6, 1, 7, 8, 9, 5, 10, 11, 12, 13, 14, 15, 16, 17, 18, 19, 20, 21, 22, 23, 123, 124, 125, 126, 127, 128, 129, 130, 131, 132, 133, 134] (by decide +kernel) (by decide +kernel)
set_option maxRecDepth 20000 in
theorem gX2_hand_X2_formFault : GoodIn wsX2_hand (wsV RX2 64 RX2 yX2_formFault wsX2_formFault) := goodIn_app (goodIn_of _ (by decide +kernel)) ggX2_hand_X2_formFault
set_option maxRecDepth 20000 in
theorem ggX2_hand_X2_takeStatements : GoodIn wsX2_hand wsX2_takeStatements := goodIn_r _ [27, 28, 29, 1, 30, 31, 32, 33, 34, 35, 36, 37, 38, 39, 40, 41, 42, 43, 44, 45, 46, 47, 48, 49, 50, 51, 52, 53, 5, 54, 7, 8, 9, 10, 11, 12, 13, 14, 21, 22, 23, 55, 56, 57, 58, 59, 60, 61, 62, 63, 64, 65, 66, 67, 68, 69, 70, 71, 72, 73, 74, 75, 76, 77, 78, 79, 80, 81, 82, 83, 84, 85, 86, 87, 88, 89, 90, 91, 92, 93, 94, 95, 96, 97, 98, 99, 100, 101, 102, 103, 104, 105, 106, 107, 108, 109, 110, 111, 112, 113, 114, 115, 116, 117, 118, 119, 120, 121, 122, 15, 16, 17, 123, 124, 125, 126, 127, 128, 129, 130, 131, 132, 133, 134, 135, 136, 137, 138, 139, 140, 141, 142, 143, 144, 145, 146] (by decide +kernel) (by decide +kernel)
set_option maxRecDepth 20000 in
theorem gX2_hand_X2_takeStatements : GoodIn wsX2_hand (wsV RX2 68 RX2 yX2_takeStatements wsX2_takeStatements) := goodIn_app (goodIn_of _ (by decide +kernel)) ggX2_hand_X2_takeStatements
theorem dX2_hand_0 : decode cX2_hand 0 = .ok (.aload_n 0, 1) := by decide +kernel
theorem dX2_hand_1 : decode cX2_hand 1 = .ok (.invokevirtual 64, 3) := by decide +kernel
theorem dX2_hand_4 : decode cX2_hand 4 = .ok (.istore_n 1, 1) := by decide +kernel
theorem dX2_hand_5 : decode cX2_hand 5 = .ok (.iload_n 1, 1) := by decide +kernel
theorem dX2_hand_6 : decode cX2_hand 6 = .ok (.ifCond .lt 11, 3) := by decide +kernel
theorem dX2_hand_9 : decode cX2_hand 9 = .ok (.sipush (-1000), 3) := by decide +kernel
theorem dX2_hand_12 : decode cX2_hand 12 = .ok (.iload_n 1, 1) := by decide +kernel
theorem dX2_hand_13 : decode cX2_hand 13 = .ok (.isub, 1) := by decide +kernel
theorem dX2_hand_14 : decode cX2_hand 14 = .ok (.goto 7, 3) := by decide +kernel
theorem dX2_hand_17 : decode cX2_hand 17 = .ok (.aload_n 0, 1) := by decide +kernel
theorem dX2_hand_18 : decode cX2_hand 18 = .ok (.invokevirtual 68, 3) := by decide +kernel
theorem dX2_hand_21 : decode cX2_hand 21 = .ok (.istore_n 2, 1) := by decide +kernel
theorem dX2_hand_22 : decode cX2_hand 22 = .ok (.aload_n 0, 1) := by decide +kernel
theorem dX2_hand_23 : decode cX2_hand 23 = .ok (.iconst 0, 1) := by decide +kernel
theorem dX2_hand_24 : decode cX2_hand 24 = .ok (.putfield 42, 3) := by decide +kernel
theorem dX2_hand_27 : decode cX2_hand 27 = .ok (.iload_n 2, 1) := by decide +kernel
theorem dX2_hand_28 : decode cX2_hand 28 = .ok (.ireturn, 1) := by decide +kernel
set_option maxRecDepth 20000 in
theorem ggX2_part_X2_refuse : GoodIn wsX2_part wsX2_refuse := goodIn_r _ [9, 10, 11, 12, 8, 13, 14, 15, 16, 33, 34, 35, 36, 37, 38, 39, 40, 41, 42, 43, 44] (by decide +kernel) (by decide +kernel)
set_option maxRecDepth 20000 in
theorem gX2_part_X2_refuse : GoodIn wsX2_part (wsV RX2 56 RX2 yX2_refuse wsX2_refuse) := goodIn_app (goodIn_of _ (by decide +kernel)) ggX2_part_X2_refuse
set_option maxRecDepth 20000 in
theorem ggX2_part_X2_at : GoodIn wsX2_part wsX2_at := goodIn_r _ [13] (by decide +kernel) (by decide +kernel)
set_option maxRecDepth 20000 in
theorem gX2_part_X2_at : GoodIn wsX2_part (va_wsS RX2 77 yX2_at wsX2_at) := goodIn_app (goodIn_of _ (by decide +kernel)) ggX2_part_X2_at
set_option maxRecDepth 20000 in
theorem ggX2_part_X0_thickNow : GoodIn wsX2_part wsX0_thickNow := goodIn_r _ [21, 22, 23, 24, 25, 26, 12, 8, 13, 27, 28, 29, 30, 31, 32, 45, 46, 47, 48, 49, 50, 51, 52, 53, 54, 55, 56] (by decide +kernel) (by decide +kernel)
set_option maxRecDepth 20000 in
theorem gX2_part_X0_thickNow : GoodIn wsX2_part (wsV RX2 84 RX0 yX0_thickNow wsX0_thickNow) := goodIn_app (goodIn_of _ (by decide +kernel)) ggX2_part_X0_thickNow
theorem dX2_part_0 : decode cX2_part 0 = .ok (.iload_n 1, 1) := by decide +kernel
theorem dX2_part_1 : decode cX2_part 1 = .ok (.ifCond .lt 14, 3) := by decide +kernel
theorem dX2_part_4 : decode cX2_part 4 = .ok (.iload_n 1, 1) := by decide +kernel
theorem dX2_part_5 : decode cX2_part 5 = .ok (.aload_n 0, 1) := by decide +kernel
theorem dX2_part_6 : decode cX2_part 6 = .ok (.getfield 10, 3) := by decide +kernel
theorem dX2_part_9 : decode cX2_part 9 = .ok (.getfield 71, 3) := by decide +kernel
theorem dX2_part_12 : decode cX2_part 12 = .ok (.if_icmp .lt 9, 3) := by decide +kernel
theorem dX2_part_15 : decode cX2_part 15 = .ok (.aload_n 0, 1) := by decide +kernel
theorem dX2_part_16 : decode cX2_part 16 = .ok (.iconst (-1), 1) := by decide +kernel
theorem dX2_part_17 : decode cX2_part 17 = .ok (.invokevirtual 56, 3) := by decide +kernel
theorem dX2_part_20 : decode cX2_part 20 = .ok (.ireturn, 1) := by decide +kernel
theorem dX2_part_21 : decode cX2_part 21 = .ok (.iload_n 2, 1) := by decide +kernel
theorem dX2_part_22 : decode cX2_part 22 = .ok (.tableswitch 59 0 2 #[26, 38, 50], 26) := by decide +kernel
theorem dX2_part_48 : decode cX2_part 48 = .ok (.aload_n 0, 1) := by decide +kernel
theorem dX2_part_49 : decode cX2_part 49 = .ok (.getfield 10, 3) := by decide +kernel
theorem dX2_part_52 : decode cX2_part 52 = .ok (.getfield 74, 3) := by decide +kernel
theorem dX2_part_55 : decode cX2_part 55 = .ok (.iload_n 1, 1) := by decide +kernel
theorem dX2_part_56 : decode cX2_part 56 = .ok (.invokestatic 77, 3) := by decide +kernel
theorem dX2_part_59 : decode cX2_part 59 = .ok (.ireturn, 1) := by decide +kernel
theorem dX2_part_60 : decode cX2_part 60 = .ok (.aload_n 0, 1) := by decide +kernel
theorem dX2_part_61 : decode cX2_part 61 = .ok (.getfield 10, 3) := by decide +kernel
theorem dX2_part_64 : decode cX2_part 64 = .ok (.getfield 81, 3) := by decide +kernel
theorem dX2_part_67 : decode cX2_part 67 = .ok (.iload_n 1, 1) := by decide +kernel
theorem dX2_part_68 : decode cX2_part 68 = .ok (.invokestatic 77, 3) := by decide +kernel
theorem dX2_part_71 : decode cX2_part 71 = .ok (.ireturn, 1) := by decide +kernel
theorem dX2_part_72 : decode cX2_part 72 = .ok (.aload_n 0, 1) := by decide +kernel
theorem dX2_part_73 : decode cX2_part 73 = .ok (.getfield 10, 3) := by decide +kernel
theorem dX2_part_76 : decode cX2_part 76 = .ok (.iload_n 1, 1) := by decide +kernel
theorem dX2_part_77 : decode cX2_part 77 = .ok (.invokevirtual 84, 3) := by decide +kernel
theorem dX2_part_80 : decode cX2_part 80 = .ok (.ireturn, 1) := by decide +kernel
theorem dX2_part_81 : decode cX2_part 81 = .ok (.aload_n 0, 1) := by decide +kernel
theorem dX2_part_82 : decode cX2_part 82 = .ok (.bipush (-2), 2) := by decide +kernel
theorem dX2_part_84 : decode cX2_part 84 = .ok (.invokevirtual 56, 3) := by decide +kernel
theorem dX2_part_87 : decode cX2_part 87 = .ok (.ireturn, 1) := by decide +kernel
set_option maxRecDepth 20000 in
theorem ggX2_set_X2_refuse : GoodIn wsX2_set wsX2_refuse := goodIn_r _ [8, 9, 10, 11, 7, 12, 13, 14, 15, 30, 31, 32, 33, 34, 35, 36, 37, 38, 39, 40, 41] (by decide +kernel) (by decide +kernel)
set_option maxRecDepth 20000 in
theorem gX2_set_X2_refuse : GoodIn wsX2_set (wsV RX2 56 RX2 yX2_refuse wsX2_refuse) := goodIn_app (goodIn_of _ (by decide +kernel)) ggX2_set_X2_refuse
set_option maxRecDepth 20000 in
theorem ggX2_set_X2_at : GoodIn wsX2_set wsX2_at := goodIn_r _ [12] (by decide +kernel) (by decide +kernel)
set_option maxRecDepth 20000 in
theorem gX2_set_X2_at : GoodIn wsX2_set (va_wsS RX2 77 yX2_at wsX2_at) := goodIn_app (goodIn_of _ (by decide +kernel)) ggX2_set_X2_at
set_option maxRecDepth 20000 in
theorem ggX2_set_X0_setting : GoodIn wsX2_set wsX0_setting := goodIn_r _ [20, 21, 22, 23, 24, 25, 42, 43, 44, 45, 46, 47, 48, 49, 50, 51, 52, 53] (by decide +kernel) (by decide +kernel)
set_option maxRecDepth 20000 in
theorem gX2_set_X0_setting : GoodIn wsX2_set (wsV RX2 93 RX0 yX0_setting wsX0_setting) := goodIn_app (goodIn_of _ (by decide +kernel)) ggX2_set_X0_setting
set_option maxRecDepth 20000 in
theorem ggX2_set_X0_change : GoodIn wsX2_set wsX0_change := goodIn_r _ [29, 21, 22, 23, 24, 25, 42, 43, 44, 45, 46, 47, 48, 49, 50, 51, 52, 53] (by decide +kernel) (by decide +kernel)
set_option maxRecDepth 20000 in
theorem gX2_set_X0_change : GoodIn wsX2_set (wsV RX2 96 RX0 yX0_change wsX0_change) := goodIn_app (goodIn_of _ (by decide +kernel)) ggX2_set_X0_change
theorem dX2_set_0 : decode cX2_set 0 = .ok (.iload_n 1, 1) := by decide +kernel
theorem dX2_set_1 : decode cX2_set 1 = .ok (.ifCond .lt 8, 3) := by decide +kernel
theorem dX2_set_4 : decode cX2_set 4 = .ok (.iload_n 1, 1) := by decide +kernel
theorem dX2_set_5 : decode cX2_set 5 = .ok (.iconst 4, 1) := by decide +kernel
theorem dX2_set_6 : decode cX2_set 6 = .ok (.if_icmp .le 10, 3) := by decide +kernel
theorem dX2_set_9 : decode cX2_set 9 = .ok (.aload_n 0, 1) := by decide +kernel
theorem dX2_set_10 : decode cX2_set 10 = .ok (.bipush (-2), 2) := by decide +kernel
theorem dX2_set_12 : decode cX2_set 12 = .ok (.invokevirtual 56, 3) := by decide +kernel
theorem dX2_set_15 : decode cX2_set 15 = .ok (.ireturn, 1) := by decide +kernel
theorem dX2_set_16 : decode cX2_set 16 = .ok (.iload_n 2, 1) := by decide +kernel
theorem dX2_set_17 : decode cX2_set 17 = .ok (.getstatic 87, 3) := by decide +kernel
theorem dX2_set_20 : decode cX2_set 20 = .ok (.iload_n 1, 1) := by decide +kernel
theorem dX2_set_21 : decode cX2_set 21 = .ok (.invokestatic 77, 3) := by decide +kernel
theorem dX2_set_24 : decode cX2_set 24 = .ok (.if_icmp .ge 10, 3) := by decide +kernel
theorem dX2_set_27 : decode cX2_set 27 = .ok (.aload_n 0, 1) := by decide +kernel
theorem dX2_set_28 : decode cX2_set 28 = .ok (.bipush (-4), 2) := by decide +kernel
theorem dX2_set_30 : decode cX2_set 30 = .ok (.invokevirtual 56, 3) := by decide +kernel
theorem dX2_set_33 : decode cX2_set 33 = .ok (.ireturn, 1) := by decide +kernel
theorem dX2_set_34 : decode cX2_set 34 = .ok (.iload_n 2, 1) := by decide +kernel
theorem dX2_set_35 : decode cX2_set 35 = .ok (.getstatic 90, 3) := by decide +kernel
theorem dX2_set_38 : decode cX2_set 38 = .ok (.iload_n 1, 1) := by decide +kernel
theorem dX2_set_39 : decode cX2_set 39 = .ok (.invokestatic 77, 3) := by decide +kernel
theorem dX2_set_42 : decode cX2_set 42 = .ok (.if_icmp .le 10, 3) := by decide +kernel
theorem dX2_set_45 : decode cX2_set 45 = .ok (.aload_n 0, 1) := by decide +kernel
theorem dX2_set_46 : decode cX2_set 46 = .ok (.bipush (-6), 2) := by decide +kernel
theorem dX2_set_48 : decode cX2_set 48 = .ok (.invokevirtual 56, 3) := by decide +kernel
theorem dX2_set_51 : decode cX2_set 51 = .ok (.ireturn, 1) := by decide +kernel
theorem dX2_set_52 : decode cX2_set 52 = .ok (.aload_n 0, 1) := by decide +kernel
theorem dX2_set_53 : decode cX2_set 53 = .ok (.getfield 10, 3) := by decide +kernel
theorem dX2_set_56 : decode cX2_set 56 = .ok (.iload_n 1, 1) := by decide +kernel
theorem dX2_set_57 : decode cX2_set 57 = .ok (.invokevirtual 93, 3) := by decide +kernel
theorem dX2_set_60 : decode cX2_set 60 = .ok (.istore_n 3, 1) := by decide +kernel
theorem dX2_set_61 : decode cX2_set 61 = .ok (.aload_n 0, 1) := by decide +kernel
theorem dX2_set_62 : decode cX2_set 62 = .ok (.getfield 10, 3) := by decide +kernel
theorem dX2_set_65 : decode cX2_set 65 = .ok (.iload_n 1, 1) := by decide +kernel
theorem dX2_set_66 : decode cX2_set 66 = .ok (.iload_n 2, 1) := by decide +kernel
theorem dX2_set_67 : decode cX2_set 67 = .ok (.invokevirtual 96, 3) := by decide +kernel
theorem dX2_set_70 : decode cX2_set 70 = .ok (.iload_n 3, 1) := by decide +kernel
theorem dX2_set_71 : decode cX2_set 71 = .ok (.ireturn, 1) := by decide +kernel
theorem dX2_back_0 : decode cX2_back 0 = .ok (.aload_n 0, 1) := by decide +kernel
theorem dX2_back_1 : decode cX2_back 1 = .ok (.getfield 10, 3) := by decide +kernel
theorem dX2_back_4 : decode cX2_back 4 = .ok (.getfield 100, 3) := by decide +kernel
theorem dX2_back_7 : decode cX2_back 7 = .ok (.istore_n 1, 1) := by decide +kernel
theorem dX2_back_8 : decode cX2_back 8 = .ok (.aload_n 0, 1) := by decide +kernel
theorem dX2_back_9 : decode cX2_back 9 = .ok (.getfield 10, 3) := by decide +kernel
theorem dX2_back_12 : decode cX2_back 12 = .ok (.iconst 0, 1) := by decide +kernel
theorem dX2_back_13 : decode cX2_back 13 = .ok (.putfield 100, 3) := by decide +kernel
theorem dX2_back_16 : decode cX2_back 16 = .ok (.iload_n 1, 1) := by decide +kernel
theorem dX2_back_17 : decode cX2_back 17 = .ok (.ireturn, 1) := by decide +kernel
set_option maxRecDepth 20000 in
theorem ggX2_kind_X2_isTry : GoodIn wsX2_kind wsX2_isTry := goodIn_r _ [9] (by decide +kernel) (by decide +kernel)
set_option maxRecDepth 20000 in
theorem gX2_kind_X2_isTry : GoodIn wsX2_kind (va_wsS RX2 103 yX2_isTry wsX2_isTry) := goodIn_app (goodIn_of _ (by decide +kernel)) ggX2_kind_X2_isTry
set_option maxRecDepth 20000 in
theorem ggX2_kind_X2_refuse : GoodIn wsX2_kind wsX2_refuse := goodIn_r _ [13, 14, 15, 16, 8, 17, 18, 19, 20, 24, 25, 26, 27, 28, 29, 30, 31, 32, 33, 34, 35] (by decide +kernel) (by decide +kernel)
set_option maxRecDepth 20000 in
theorem gX2_kind_X2_refuse : GoodIn wsX2_kind (wsV RX2 56 RX2 yX2_refuse wsX2_refuse) := goodIn_app (goodIn_of _ (by decide +kernel)) ggX2_kind_X2_refuse
set_option maxRecDepth 20000 in
theorem ggX2_kind_X2_allowance : GoodIn wsX2_kind wsX2_allowance := goodIn_r _ [23] (by decide +kernel) (by decide +kernel)
set_option maxRecDepth 20000 in
theorem gX2_kind_X2_allowance : GoodIn wsX2_kind (va_wsS RX2 110 yX2_allowance wsX2_allowance) := goodIn_app (goodIn_of _ (by decide +kernel)) ggX2_kind_X2_allowance
set_option maxRecDepth 20000 in
theorem ggX2_kind_X2_at : GoodIn wsX2_kind wsX2_at := goodIn_r _ [17] (by decide +kernel) (by decide +kernel)
set_option maxRecDepth 20000 in
theorem gX2_kind_X2_at : GoodIn wsX2_kind (va_wsS RX2 77 yX2_at wsX2_at) := goodIn_app (goodIn_of _ (by decide +kernel)) ggX2_kind_X2_at
theorem dX2_kind_0 : decode cX2_kind 0 = .ok (.iload_n 1, 1) := by decide +kernel
theorem dX2_kind_1 : decode cX2_kind 1 = .ok (.invokestatic 103, 3) := by decide +kernel
theorem dX2_kind_4 : decode cX2_kind 4 = .ok (.ifCond .ne 10, 3) := by decide +kernel
theorem dX2_kind_7 : decode cX2_kind 7 = .ok (.aload_n 0, 1) := by decide +kernel
theorem dX2_kind_8 : decode cX2_kind 8 = .ok (.bipush (-2), 2) := by decide +kernel
theorem dX2_kind_10 : decode cX2_kind 10 = .ok (.invokevirtual 56, 3) := by decide +kernel
theorem dX2_kind_13 : decode cX2_kind 13 = .ok (.ireturn, 1) := by decide +kernel
theorem dX2_kind_14 : decode cX2_kind 14 = .ok (.iload_n 2, 1) := by decide +kernel
theorem dX2_kind_15 : decode cX2_kind 15 = .ok (.tableswitch 65 0 3 #[29, 41, 49, 57], 29) := by decide +kernel
theorem dX2_kind_44 : decode cX2_kind 44 = .ok (.iload_n 1, 1) := by decide +kernel
theorem dX2_kind_45 : decode cX2_kind 45 = .ok (.aload_n 0, 1) := by decide +kernel
theorem dX2_kind_46 : decode cX2_kind 46 = .ok (.getfield 10, 3) := by decide +kernel
theorem dX2_kind_49 : decode cX2_kind 49 = .ok (.getfield 107, 3) := by decide +kernel
theorem dX2_kind_52 : decode cX2_kind 52 = .ok (.invokestatic 110, 3) := by decide +kernel
theorem dX2_kind_55 : decode cX2_kind 55 = .ok (.ireturn, 1) := by decide +kernel
theorem dX2_kind_56 : decode cX2_kind 56 = .ok (.getstatic 114, 3) := by decide +kernel
theorem dX2_kind_59 : decode cX2_kind 59 = .ok (.iload_n 1, 1) := by decide +kernel
theorem dX2_kind_60 : decode cX2_kind 60 = .ok (.invokestatic 77, 3) := by decide +kernel
theorem dX2_kind_63 : decode cX2_kind 63 = .ok (.ireturn, 1) := by decide +kernel
theorem dX2_kind_64 : decode cX2_kind 64 = .ok (.getstatic 117, 3) := by decide +kernel
theorem dX2_kind_67 : decode cX2_kind 67 = .ok (.iload_n 1, 1) := by decide +kernel
theorem dX2_kind_68 : decode cX2_kind 68 = .ok (.invokestatic 77, 3) := by decide +kernel
theorem dX2_kind_71 : decode cX2_kind 71 = .ok (.ireturn, 1) := by decide +kernel
theorem dX2_kind_72 : decode cX2_kind 72 = .ok (.getstatic 120, 3) := by decide +kernel
theorem dX2_kind_75 : decode cX2_kind 75 = .ok (.iload_n 1, 1) := by decide +kernel
theorem dX2_kind_76 : decode cX2_kind 76 = .ok (.invokestatic 77, 3) := by decide +kernel
theorem dX2_kind_79 : decode cX2_kind 79 = .ok (.ireturn, 1) := by decide +kernel
theorem dX2_kind_80 : decode cX2_kind 80 = .ok (.aload_n 0, 1) := by decide +kernel
theorem dX2_kind_81 : decode cX2_kind 81 = .ok (.bipush (-2), 2) := by decide +kernel
theorem dX2_kind_83 : decode cX2_kind 83 = .ok (.invokevirtual 56, 3) := by decide +kernel
theorem dX2_kind_86 : decode cX2_kind 86 = .ok (.ireturn, 1) := by decide +kernel
set_option maxRecDepth 20000 in
theorem ggX2_tries_X2_tryRefusal : GoodIn wsX2_tries wsX2_tryRefusal := goodIn_r _ [7, 1, 8, 9, 6, 10, 11, 12, 13, 14, 15, 16, 17, 18, 19, 20, 21, 22, 23, 24, 25, 26, 27, 28, 71, 72, 73, 74, 75, 76, 77, 78, 79, 80, 81, 82, 83, 84, 85, 86, 87, 88, 89, 90, 91, 92, 93, 94] (by decide +kernel) (by decide +kernel)
set_option maxRecDepth 20000 in
theorem gX2_tries_X2_tryRefusal : GoodIn wsX2_tries (wsV RX2 123 RX2 yX2_tryRefusal wsX2_tryRefusal) := goodIn_app (goodIn_of _ (by decide +kernel)) ggX2_tries_X2_tryRefusal
set_option maxRecDepth 20000 in
theorem ggX2_tries_X2_at : GoodIn wsX2_tries wsX2_at := goodIn_r _ [18] (by decide +kernel) (by decide +kernel)
set_option maxRecDepth 20000 in
theorem gX2_tries_X2_at : GoodIn wsX2_tries (va_wsS RX2 77 yX2_at wsX2_at) := goodIn_app (goodIn_of _ (by decide +kernel)) ggX2_tries_X2_at
set_option maxRecDepth 20000 in
theorem ggX2_tries_X0_hasMinutes : GoodIn wsX2_tries wsX0_hasMinutes := goodIn_r _ [32, 33, 83, 84, 85, 86, 87, 88, 89, 90, 91, 92, 93, 94] (by decide +kernel) (by decide +kernel)
set_option maxRecDepth 20000 in
theorem gX2_tries_X0_hasMinutes : GoodIn wsX2_tries (wsV RX2 126 RX0 yX0_hasMinutes wsX0_hasMinutes) := goodIn_app (goodIn_of _ (by decide +kernel)) ggX2_tries_X0_hasMinutes
set_option maxRecDepth 20000 in
theorem ggX2_tries_X2_refuse : GoodIn wsX2_tries wsX2_refuse := goodIn_r _ [14, 15, 16, 17, 6, 18, 19, 20, 21, 71, 72, 73, 74, 75, 76, 77, 78, 79, 80, 81, 82] (by decide +kernel) (by decide +kernel)
set_option maxRecDepth 20000 in
theorem gX2_tries_X2_refuse : GoodIn wsX2_tries (wsV RX2 56 RX2 yX2_refuse wsX2_refuse) := goodIn_app (goodIn_of _ (by decide +kernel)) ggX2_tries_X2_refuse
set_option maxRecDepth 20000 in
theorem ggX2_tries_X0_attempt : GoodIn wsX2_tries wsX0_attempt := goodIn_r _ [37, 27, 38, 39, 40, 25, 41, 42, 43, 44, 45, 46, 47, 48, 23, 24, 26, 28, 17, 6, 18, 49, 50, 51, 52, 53, 54, 55, 56, 57, 58, 59, 60, 61, 62, 63, 64, 65, 66, 67, 68, 69, 33, 70, 83, 84, 85, 86, 87, 88, 89, 90, 91, 92, 93, 94] (by decide +kernel) (by decide +kernel)
set_option maxRecDepth 20000 in
theorem gX2_tries_X0_attempt : GoodIn wsX2_tries (wsV RX2 129 RX0 yX0_attempt wsX0_attempt) := goodIn_app (goodIn_of _ (by decide +kernel)) ggX2_tries_X0_attempt
theorem dX2_tries_0 : decode cX2_tries 0 = .ok (.aload_n 0, 1) := by decide +kernel
theorem dX2_tries_1 : decode cX2_tries 1 = .ok (.iload_n 1, 1) := by decide +kernel
theorem dX2_tries_2 : decode cX2_tries 2 = .ok (.invokevirtual 123, 3) := by decide +kernel
theorem dX2_tries_5 : decode cX2_tries 5 = .ok (.istore_n 2, 1) := by decide +kernel
theorem dX2_tries_6 : decode cX2_tries 6 = .ok (.iload_n 2, 1) := by decide +kernel
theorem dX2_tries_7 : decode cX2_tries 7 = .ok (.ifCond .eq 5, 3) := by decide +kernel
theorem dX2_tries_10 : decode cX2_tries 10 = .ok (.iload_n 2, 1) := by decide +kernel
theorem dX2_tries_11 : decode cX2_tries 11 = .ok (.ireturn, 1) := by decide +kernel
theorem dX2_tries_12 : decode cX2_tries 12 = .ok (.aload_n 0, 1) := by decide +kernel
theorem dX2_tries_13 : decode cX2_tries 13 = .ok (.getfield 10, 3) := by decide +kernel
theorem dX2_tries_16 : decode cX2_tries 16 = .ok (.getstatic 114, 3) := by decide +kernel
theorem dX2_tries_19 : decode cX2_tries 19 = .ok (.iload_n 1, 1) := by decide +kernel
theorem dX2_tries_20 : decode cX2_tries 20 = .ok (.invokestatic 77, 3) := by decide +kernel
theorem dX2_tries_23 : decode cX2_tries 23 = .ok (.invokevirtual 126, 3) := by decide +kernel
theorem dX2_tries_26 : decode cX2_tries 26 = .ok (.ifCond .ne 10, 3) := by decide +kernel
theorem dX2_tries_29 : decode cX2_tries 29 = .ok (.aload_n 0, 1) := by decide +kernel
theorem dX2_tries_30 : decode cX2_tries 30 = .ok (.bipush (-6), 2) := by decide +kernel
theorem dX2_tries_32 : decode cX2_tries 32 = .ok (.invokevirtual 56, 3) := by decide +kernel
theorem dX2_tries_35 : decode cX2_tries 35 = .ok (.ireturn, 1) := by decide +kernel
theorem dX2_tries_36 : decode cX2_tries 36 = .ok (.aload_n 0, 1) := by decide +kernel
theorem dX2_tries_37 : decode cX2_tries 37 = .ok (.getfield 10, 3) := by decide +kernel
theorem dX2_tries_40 : decode cX2_tries 40 = .ok (.iload_n 1, 1) := by decide +kernel
theorem dX2_tries_41 : decode cX2_tries 41 = .ok (.invokevirtual 129, 3) := by decide +kernel
theorem dX2_tries_44 : decode cX2_tries 44 = .ok (.ifCond .eq 7, 3) := by decide +kernel
theorem dX2_tries_47 : decode cX2_tries 47 = .ok (.iconst 1, 1) := by decide +kernel
theorem dX2_tries_48 : decode cX2_tries 48 = .ok (.goto 4, 3) := by decide +kernel
theorem dX2_tries_51 : decode cX2_tries 51 = .ok (.iconst 0, 1) := by decide +kernel
theorem dX2_tries_52 : decode cX2_tries 52 = .ok (.ireturn, 1) := by decide +kernel
set_option maxRecDepth 20000 in
theorem ggX2_pause_X2_refuse : GoodIn wsX2_pause wsX2_refuse := goodIn_r _ [7, 8, 9, 10, 6, 11, 12, 13, 14, 32, 33, 34, 35, 36, 37, 38, 39, 40, 41, 42, 43] (by decide +kernel) (by decide +kernel)
set_option maxRecDepth 20000 in
theorem gX2_pause_X2_refuse : GoodIn wsX2_pause (wsV RX2 56 RX2 yX2_refuse wsX2_refuse) := goodIn_app (goodIn_of _ (by decide +kernel)) ggX2_pause_X2_refuse
set_option maxRecDepth 20000 in
theorem ggX2_pause_X0_hasMinutes : GoodIn wsX2_pause wsX0_hasMinutes := goodIn_r _ [19, 20, 44, 45, 46, 47, 48, 49, 50, 51, 52, 53, 54, 55] (by decide +kernel) (by decide +kernel)
set_option maxRecDepth 20000 in
theorem gX2_pause_X0_hasMinutes : GoodIn wsX2_pause (wsV RX2 126 RX0 yX0_hasMinutes wsX0_hasMinutes) := goodIn_app (goodIn_of _ (by decide +kernel)) ggX2_pause_X0_hasMinutes
set_option maxRecDepth 20000 in
theorem ggX2_pause_X0_rest : GoodIn wsX2_pause wsX0_rest := goodIn_r _ [24, 25, 26, 27, 28, 29, 30, 31, 20, 44, 45, 46, 47, 48, 49, 50, 51, 52, 53, 54, 55] (by decide +kernel) (by decide +kernel)
set_option maxRecDepth 20000 in
theorem gX2_pause_X0_rest : GoodIn wsX2_pause (wsV RX2 132 RX0 yX0_rest wsX0_rest) := goodIn_app (goodIn_of _ (by decide +kernel)) ggX2_pause_X0_rest
theorem dX2_pause_0 : decode cX2_pause 0 = .ok (.iload_n 1, 1) := by decide +kernel
theorem dX2_pause_1 : decode cX2_pause 1 = .ok (.iconst 1, 1) := by decide +kernel
theorem dX2_pause_2 : decode cX2_pause 2 = .ok (.if_icmp .ge 10, 3) := by decide +kernel
theorem dX2_pause_5 : decode cX2_pause 5 = .ok (.aload_n 0, 1) := by decide +kernel
theorem dX2_pause_6 : decode cX2_pause 6 = .ok (.bipush (-4), 2) := by decide +kernel
theorem dX2_pause_8 : decode cX2_pause 8 = .ok (.invokevirtual 56, 3) := by decide +kernel
theorem dX2_pause_11 : decode cX2_pause 11 = .ok (.ireturn, 1) := by decide +kernel
theorem dX2_pause_12 : decode cX2_pause 12 = .ok (.iload_n 1, 1) := by decide +kernel
theorem dX2_pause_13 : decode cX2_pause 13 = .ok (.bipush 60, 2) := by decide +kernel
theorem dX2_pause_15 : decode cX2_pause 15 = .ok (.if_icmp .gt 14, 3) := by decide +kernel
theorem dX2_pause_18 : decode cX2_pause 18 = .ok (.aload_n 0, 1) := by decide +kernel
theorem dX2_pause_19 : decode cX2_pause 19 = .ok (.getfield 10, 3) := by decide +kernel
theorem dX2_pause_22 : decode cX2_pause 22 = .ok (.iload_n 1, 1) := by decide +kernel
theorem dX2_pause_23 : decode cX2_pause 23 = .ok (.invokevirtual 126, 3) := by decide +kernel
theorem dX2_pause_26 : decode cX2_pause 26 = .ok (.ifCond .ne 10, 3) := by decide +kernel
theorem dX2_pause_29 : decode cX2_pause 29 = .ok (.aload_n 0, 1) := by decide +kernel
theorem dX2_pause_30 : decode cX2_pause 30 = .ok (.bipush (-6), 2) := by decide +kernel
theorem dX2_pause_32 : decode cX2_pause 32 = .ok (.invokevirtual 56, 3) := by decide +kernel
theorem dX2_pause_35 : decode cX2_pause 35 = .ok (.ireturn, 1) := by decide +kernel
theorem dX2_pause_36 : decode cX2_pause 36 = .ok (.aload_n 0, 1) := by decide +kernel
theorem dX2_pause_37 : decode cX2_pause 37 = .ok (.getfield 10, 3) := by decide +kernel
theorem dX2_pause_40 : decode cX2_pause 40 = .ok (.iload_n 1, 1) := by decide +kernel
theorem dX2_pause_41 : decode cX2_pause 41 = .ok (.invokevirtual 132, 3) := by decide +kernel
theorem dX2_pause_44 : decode cX2_pause 44 = .ok (.aload_n 0, 1) := by decide +kernel
theorem dX2_pause_45 : decode cX2_pause 45 = .ok (.getfield 10, 3) := by decide +kernel
theorem dX2_pause_48 : decode cX2_pause 48 = .ok (.getfield 136, 3) := by decide +kernel
theorem dX2_pause_51 : decode cX2_pause 51 = .ok (.ireturn, 1) := by decide +kernel
set_option maxRecDepth 20000 in
theorem ggX2_would_X2_tryRefusal : GoodIn wsX2_would wsX2_tryRefusal := goodIn_r _ [6, 1, 7, 8, 5, 9, 10, 11, 12, 13, 14, 15, 16, 17, 18, 19, 20, 21, 22, 23, 24, 25, 26, 27, 55, 56, 57, 58, 59, 60, 61, 62, 63, 64, 65, 66, 67, 68, 69, 70, 71, 72, 73, 74, 75, 76, 77, 78] (by decide +kernel) (by decide +kernel)
set_option maxRecDepth 20000 in
theorem gX2_would_X2_tryRefusal : GoodIn wsX2_would (wsV RX2 123 RX2 yX2_tryRefusal wsX2_tryRefusal) := goodIn_app (goodIn_of _ (by decide +kernel)) ggX2_would_X2_tryRefusal
set_option maxRecDepth 20000 in
theorem ggX2_would_X0_goesOver : GoodIn wsX2_would wsX0_goesOver := goodIn_r _ [31, 32, 26, 33, 34, 35, 36, 37, 38, 22, 23, 24, 25, 27, 16, 5, 17, 39, 40, 41, 42, 43, 44, 45, 46, 47, 48, 49, 50, 51, 52, 53, 54, 67, 68, 69, 70, 71, 72, 73, 74, 75, 76, 77, 78] (by decide +kernel) (by decide +kernel)
set_option maxRecDepth 20000 in
theorem gX2_would_X0_goesOver : GoodIn wsX2_would (wsV RX2 139 RX0 yX0_goesOver wsX0_goesOver) := goodIn_app (goodIn_of _ (by decide +kernel)) ggX2_would_X0_goesOver
theorem dX2_would_0 : decode cX2_would 0 = .ok (.aload_n 0, 1) := by decide +kernel
theorem dX2_would_1 : decode cX2_would 1 = .ok (.iload_n 1, 1) := by decide +kernel
theorem dX2_would_2 : decode cX2_would 2 = .ok (.invokevirtual 123, 3) := by decide +kernel
theorem dX2_would_5 : decode cX2_would 5 = .ok (.istore_n 2, 1) := by decide +kernel
theorem dX2_would_6 : decode cX2_would 6 = .ok (.iload_n 2, 1) := by decide +kernel
theorem dX2_would_7 : decode cX2_would 7 = .ok (.ifCond .eq 5, 3) := by decide +kernel
theorem dX2_would_10 : decode cX2_would 10 = .ok (.iload_n 2, 1) := by decide +kernel
theorem dX2_would_11 : decode cX2_would 11 = .ok (.ireturn, 1) := by decide +kernel
theorem dX2_would_12 : decode cX2_would 12 = .ok (.aload_n 0, 1) := by decide +kernel
theorem dX2_would_13 : decode cX2_would 13 = .ok (.getfield 10, 3) := by decide +kernel
theorem dX2_would_16 : decode cX2_would 16 = .ok (.iload_n 1, 1) := by decide +kernel
theorem dX2_would_17 : decode cX2_would 17 = .ok (.invokevirtual 139, 3) := by decide +kernel
theorem dX2_would_20 : decode cX2_would 20 = .ok (.ifCond .eq 7, 3) := by decide +kernel
theorem dX2_would_23 : decode cX2_would 23 = .ok (.iconst 1, 1) := by decide +kernel
theorem dX2_would_24 : decode cX2_would 24 = .ok (.goto 4, 3) := by decide +kernel
theorem dX2_would_27 : decode cX2_would 27 = .ok (.iconst 0, 1) := by decide +kernel
theorem dX2_would_28 : decode cX2_would 28 = .ok (.ireturn, 1) := by decide +kernel
set_option maxRecDepth 20000 in
theorem ggX2_holds_X0_isOff : GoodIn wsX2_holds wsX0_isOff := goodIn_r _ [8, 9, 10, 41, 42, 43, 44, 45, 46, 47, 48, 49, 50, 51, 52] (by decide +kernel) (by decide +kernel)
set_option maxRecDepth 20000 in
theorem gX2_holds_X0_isOff : GoodIn wsX2_holds (wsV RX2 142 RX0 yX0_isOff wsX0_isOff) := goodIn_app (goodIn_of _ (by decide +kernel)) ggX2_holds_X0_isOff
set_option maxRecDepth 20000 in
theorem ggX2_holds_X0_thickNow : GoodIn wsX2_holds wsX0_thickNow := goodIn_r _ [14, 15, 16, 17, 18, 19, 20, 21, 22, 23, 24, 25, 26, 27, 28, 41, 42, 43, 44, 45, 46, 47, 48, 49, 50, 51, 52] (by decide +kernel) (by decide +kernel)
set_option maxRecDepth 20000 in
theorem gX2_holds_X0_thickNow : GoodIn wsX2_holds (wsV RX2 84 RX0 yX0_thickNow wsX0_thickNow) := goodIn_app (goodIn_of _ (by decide +kernel)) ggX2_holds_X0_thickNow
theorem dX2_holds_0 : decode cX2_holds 0 = .ok (.aload_n 0, 1) := by decide +kernel
theorem dX2_holds_1 : decode cX2_holds 1 = .ok (.getfield 10, 3) := by decide +kernel
theorem dX2_holds_4 : decode cX2_holds 4 = .ok (.invokevirtual 142, 3) := by decide +kernel
theorem dX2_holds_7 : decode cX2_holds 7 = .ok (.ifCond .eq 9, 3) := by decide +kernel
theorem dX2_holds_10 : decode cX2_holds 10 = .ok (.sipush (-9999), 3) := by decide +kernel
theorem dX2_holds_13 : decode cX2_holds 13 = .ok (.goto 25, 3) := by decide +kernel
theorem dX2_holds_16 : decode cX2_holds 16 = .ok (.aload_n 0, 1) := by decide +kernel
theorem dX2_holds_17 : decode cX2_holds 17 = .ok (.getfield 10, 3) := by decide +kernel
theorem dX2_holds_20 : decode cX2_holds 20 = .ok (.aload_n 0, 1) := by decide +kernel
theorem dX2_holds_21 : decode cX2_holds 21 = .ok (.getfield 10, 3) := by decide +kernel
theorem dX2_holds_24 : decode cX2_holds 24 = .ok (.getfield 100, 3) := by decide +kernel
theorem dX2_holds_27 : decode cX2_holds 27 = .ok (.invokevirtual 84, 3) := by decide +kernel
theorem dX2_holds_30 : decode cX2_holds 30 = .ok (.aload_n 0, 1) := by decide +kernel
theorem dX2_holds_31 : decode cX2_holds 31 = .ok (.getfield 10, 3) := by decide +kernel
theorem dX2_holds_34 : decode cX2_holds 34 = .ok (.getfield 146, 3) := by decide +kernel
theorem dX2_holds_37 : decode cX2_holds 37 = .ok (.isub, 1) := by decide +kernel
theorem dX2_holds_38 : decode cX2_holds 38 = .ok (.ireturn, 1) := by decide +kernel
set_option maxRecDepth 20000 in
theorem ggX2_goes_X2_tryRefusal : GoodIn wsX2_goes wsX2_tryRefusal := goodIn_r _ [5, 6, 7, 8, 4, 9, 10, 11, 12, 13, 14, 15, 16, 17, 18, 19, 20, 21, 22, 23, 24, 25, 26, 27, 75, 76, 77, 78, 79, 80, 81, 82, 83, 84, 85, 86, 87, 88, 89, 90, 91, 92, 93, 94, 95, 96, 97, 98] (by decide +kernel) (by decide +kernel)
set_option maxRecDepth 20000 in
theorem gX2_goes_X2_tryRefusal : GoodIn wsX2_goes (wsV RX2 123 RX2 yX2_tryRefusal wsX2_tryRefusal) := goodIn_app (goodIn_of _ (by decide +kernel)) ggX2_goes_X2_tryRefusal
set_option maxRecDepth 20000 in
theorem ggX2_goes_X2_failuresAhead : GoodIn wsX2_goes wsX2_failuresAhead := goodIn_r _ [31, 32, 6, 33, 34, 35, 24, 36, 37, 38, 39, 40, 41, 42, 27, 43, 44, 26, 45, 46, 47, 48, 49, 50, 51, 52, 53, 54, 55, 22, 23, 25, 16, 4, 17, 56, 57, 58, 59, 60, 61, 62, 63, 64, 65, 66, 67, 68, 69, 70, 71, 72, 73, 74, 75, 76, 77, 78, 79, 80, 81, 82, 83, 84, 85, 86, 87, 88, 89, 90, 91, 92, 93, 94, 95, 96, 97, 98] (by decide +kernel) (by decide +kernel)
set_option maxRecDepth 20000 in
theorem gX2_goes_X2_failuresAhead : GoodIn wsX2_goes (wsV RX2 149 RX2 yX2_failuresAhead wsX2_failuresAhead) := goodIn_app (goodIn_of _ (by decide +kernel)) ggX2_goes_X2_failuresAhead
theorem dX2_goes_0 : decode cX2_goes 0 = .ok (.aload_n 0, 1) := by decide +kernel
theorem dX2_goes_1 : decode cX2_goes 1 = .ok (.iload_n 1, 1) := by decide +kernel
theorem dX2_goes_2 : decode cX2_goes 2 = .ok (.invokevirtual 123, 3) := by decide +kernel
theorem dX2_goes_5 : decode cX2_goes 5 = .ok (.istore_n 2, 1) := by decide +kernel
theorem dX2_goes_6 : decode cX2_goes 6 = .ok (.iload_n 2, 1) := by decide +kernel
theorem dX2_goes_7 : decode cX2_goes 7 = .ok (.ifCond .eq 7, 3) := by decide +kernel
theorem dX2_goes_10 : decode cX2_goes 10 = .ok (.iload_n 2, 1) := by decide +kernel
theorem dX2_goes_11 : decode cX2_goes 11 = .ok (.goto 8, 3) := by decide +kernel
theorem dX2_goes_14 : decode cX2_goes 14 = .ok (.aload_n 0, 1) := by decide +kernel
theorem dX2_goes_15 : decode cX2_goes 15 = .ok (.iload_n 1, 1) := by decide +kernel
theorem dX2_goes_16 : decode cX2_goes 16 = .ok (.invokevirtual 149, 3) := by decide +kernel
theorem dX2_goes_19 : decode cX2_goes 19 = .ok (.ireturn, 1) := by decide +kernel
set_option maxRecDepth 20000 in
theorem ggX2_stop_X0_isOff : GoodIn wsX2_stop wsX0_isOff := goodIn_r _ [6, 7, 8, 80, 81, 82, 83, 84, 85, 86, 87, 88, 89, 90, 91] (by decide +kernel) (by decide +kernel)
set_option maxRecDepth 20000 in
theorem gX2_stop_X0_isOff : GoodIn wsX2_stop (wsV RX2 142 RX0 yX0_isOff wsX0_isOff) := goodIn_app (goodIn_of _ (by decide +kernel)) ggX2_stop_X0_isOff
set_option maxRecDepth 20000 in
theorem ggX2_stop_X2_refuse : GoodIn wsX2_stop wsX2_refuse := goodIn_r _ [13, 14, 15, 16, 12, 17, 18, 19, 20, 68, 69, 70, 71, 72, 73, 74, 75, 76, 77, 78, 79] (by decide +kernel) (by decide +kernel)
set_option maxRecDepth 20000 in
theorem gX2_stop_X2_refuse : GoodIn wsX2_stop (wsV RX2 56 RX2 yX2_refuse wsX2_refuse) := goodIn_app (goodIn_of _ (by decide +kernel)) ggX2_stop_X2_refuse
set_option maxRecDepth 20000 in
theorem ggX2_stop_X2_failuresAhead : GoodIn wsX2_stop wsX2_failuresAhead := goodIn_r _ [24, 25, 1, 26, 27, 28, 5, 29, 30, 31, 32, 33, 34, 35, 8, 36, 37, 7, 38, 39, 40, 41, 42, 43, 44, 45, 46, 47, 48, 3, 4, 6, 16, 12, 17, 49, 50, 51, 52, 53, 54, 55, 56, 57, 58, 59, 60, 61, 62, 63, 64, 65, 66, 67, 68, 69, 70, 71, 72, 73, 74, 75, 76, 77, 78, 79, 80, 81, 82, 83, 84, 85, 86, 87, 88, 89, 90, 91] (by decide +kernel) (by decide +kernel)
set_option maxRecDepth 20000 in
theorem gX2_stop_X2_failuresAhead : GoodIn wsX2_stop (wsV RX2 149 RX2 yX2_failuresAhead wsX2_failuresAhead) := goodIn_app (goodIn_of _ (by decide +kernel)) ggX2_stop_X2_failuresAhead
theorem dX2_stop_0 : decode cX2_stop 0 = .ok (.aload_n 0, 1) := by decide +kernel
theorem dX2_stop_1 : decode cX2_stop 1 = .ok (.getfield 10, 3) := by decide +kernel
theorem dX2_stop_4 : decode cX2_stop 4 = .ok (.invokevirtual 142, 3) := by decide +kernel
theorem dX2_stop_7 : decode cX2_stop 7 = .ok (.ifCond .eq 10, 3) := by decide +kernel
theorem dX2_stop_10 : decode cX2_stop 10 = .ok (.aload_n 0, 1) := by decide +kernel
theorem dX2_stop_11 : decode cX2_stop 11 = .ok (.bipush (-3), 2) := by decide +kernel
theorem dX2_stop_13 : decode cX2_stop 13 = .ok (.invokevirtual 56, 3) := by decide +kernel
theorem dX2_stop_16 : decode cX2_stop 16 = .ok (.ireturn, 1) := by decide +kernel
theorem dX2_stop_17 : decode cX2_stop 17 = .ok (.bipush (-9), 2) := by decide +kernel
theorem dX2_stop_19 : decode cX2_stop 19 = .ok (.istore_n 1, 1) := by decide +kernel
theorem dX2_stop_20 : decode cX2_stop 20 = .ok (.bipush 13, 2) := by decide +kernel
theorem dX2_stop_22 : decode cX2_stop 22 = .ok (.istore_n 2, 1) := by decide +kernel
theorem dX2_stop_23 : decode cX2_stop 23 = .ok (.iconst 0, 1) := by decide +kernel
theorem dX2_stop_24 : decode cX2_stop 24 = .ok (.istore_n 3, 1) := by decide +kernel
theorem dX2_stop_25 : decode cX2_stop 25 = .ok (.iload_n 3, 1) := by decide +kernel
theorem dX2_stop_26 : decode cX2_stop 26 = .ok (.bipush 6, 2) := by decide +kernel
theorem dX2_stop_28 : decode cX2_stop 28 = .ok (.if_icmp .gt 32, 3) := by decide +kernel
theorem dX2_stop_31 : decode cX2_stop 31 = .ok (.aload_n 0, 1) := by decide +kernel
theorem dX2_stop_32 : decode cX2_stop 32 = .ok (.iload_n 3, 1) := by decide +kernel
theorem dX2_stop_33 : decode cX2_stop 33 = .ok (.invokevirtual 149, 3) := by decide +kernel
theorem dX2_stop_36 : decode cX2_stop 36 = .ok (.istore 4, 2) := by decide +kernel
theorem dX2_stop_38 : decode cX2_stop 38 = .ok (.iload 4, 2) := by decide +kernel
theorem dX2_stop_40 : decode cX2_stop 40 = .ok (.ifCond .lt 14, 3) := by decide +kernel
theorem dX2_stop_43 : decode cX2_stop 43 = .ok (.iload 4, 2) := by decide +kernel
theorem dX2_stop_45 : decode cX2_stop 45 = .ok (.iload_n 2, 1) := by decide +kernel
theorem dX2_stop_46 : decode cX2_stop 46 = .ok (.if_icmp .ge 8, 3) := by decide +kernel
theorem dX2_stop_49 : decode cX2_stop 49 = .ok (.iload_n 3, 1) := by decide +kernel
theorem dX2_stop_50 : decode cX2_stop 50 = .ok (.istore_n 1, 1) := by decide +kernel
theorem dX2_stop_51 : decode cX2_stop 51 = .ok (.iload 4, 2) := by decide +kernel
theorem dX2_stop_53 : decode cX2_stop 53 = .ok (.istore_n 2, 1) := by decide +kernel
theorem dX2_stop_54 : decode cX2_stop 54 = .ok (.iinc 3 1, 3) := by decide +kernel
theorem dX2_stop_57 : decode cX2_stop 57 = .ok (.goto (-32), 3) := by decide +kernel
theorem dX2_stop_60 : decode cX2_stop 60 = .ok (.iload_n 1, 1) := by decide +kernel
theorem dX2_stop_61 : decode cX2_stop 61 = .ok (.ireturn, 1) := by decide +kernel
set_option maxRecDepth 20000 in
theorem ggX2_waited_X2_tryRefusal : GoodIn wsX2_waited wsX2_tryRefusal := goodIn_r _ [7, 2, 8, 9, 6, 10, 11, 12, 13, 14, 15, 16, 17, 18, 19, 20, 21, 22, 23, 24, 25, 26, 27, 28, 72, 73, 74, 75, 76, 77, 78, 79, 80, 81, 82, 83, 84, 85, 86, 87, 88, 89, 90, 91, 92, 93, 94, 95] (by decide +kernel) (by decide +kernel)
set_option maxRecDepth 20000 in
theorem gX2_waited_X2_tryRefusal : GoodIn wsX2_waited (wsV RX2 123 RX2 yX2_tryRefusal wsX2_tryRefusal) := goodIn_app (goodIn_of _ (by decide +kernel)) ggX2_waited_X2_tryRefusal
set_option maxRecDepth 20000 in
theorem ggX2_waited_X0_copyFrom : GoodIn wsX2_waited wsX0_copyFrom := goodIn_r _ [32, 33, 34, 35, 36, 37, 38, 28, 39, 40, 27, 41, 42, 43, 44, 45, 46, 84, 85, 86, 87, 88, 89, 90, 91, 92, 93, 94, 95] (by decide +kernel) (by decide +kernel)
set_option maxRecDepth 20000 in
theorem gX2_waited_X0_copyFrom : GoodIn wsX2_waited (wsV RX2 152 RX0 yX0_copyFrom wsX0_copyFrom) := goodIn_app (goodIn_of _ (by decide +kernel)) ggX2_waited_X0_copyFrom
set_option maxRecDepth 20000 in
theorem ggX2_waited_X0_rest : GoodIn wsX2_waited wsX0_rest := goodIn_r _ [50, 41, 51, 52, 53, 54, 42, 43, 45, 84, 85, 86, 87, 88, 89, 90, 91, 92, 93, 94, 95] (by decide +kernel) (by decide +kernel)
set_option maxRecDepth 20000 in
theorem gX2_waited_X0_rest : GoodIn wsX2_waited (wsV RX2 132 RX0 yX0_rest wsX0_rest) := goodIn_app (goodIn_of _ (by decide +kernel)) ggX2_waited_X0_rest
set_option maxRecDepth 20000 in
theorem ggX2_waited_X0_goesOver : GoodIn wsX2_waited wsX0_goesOver := goodIn_r _ [58, 33, 27, 38, 41, 44, 39, 40, 59, 23, 24, 25, 26, 28, 17, 6, 18, 60, 61, 62, 63, 42, 64, 65, 53, 66, 67, 68, 69, 52, 54, 70, 71, 84, 85, 86, 87, 88, 89, 90, 91, 92, 93, 94, 95] (by decide +kernel) (by decide +kernel)
set_option maxRecDepth 20000 in
theorem gX2_waited_X0_goesOver : GoodIn wsX2_waited (wsV RX2 139 RX0 yX0_goesOver wsX0_goesOver) := goodIn_app (goodIn_of _ (by decide +kernel)) ggX2_waited_X0_goesOver
theorem dX2_waited_0 : decode cX2_waited 0 = .ok (.aload_n 0, 1) := by decide +kernel
theorem dX2_waited_1 : decode cX2_waited 1 = .ok (.iload_n 1, 1) := by decide +kernel
theorem dX2_waited_2 : decode cX2_waited 2 = .ok (.invokevirtual 123, 3) := by decide +kernel
theorem dX2_waited_5 : decode cX2_waited 5 = .ok (.istore_n 2, 1) := by decide +kernel
theorem dX2_waited_6 : decode cX2_waited 6 = .ok (.iload_n 2, 1) := by decide +kernel
theorem dX2_waited_7 : decode cX2_waited 7 = .ok (.ifCond .eq 5, 3) := by decide +kernel
theorem dX2_waited_10 : decode cX2_waited 10 = .ok (.iload_n 2, 1) := by decide +kernel
theorem dX2_waited_11 : decode cX2_waited 11 = .ok (.ireturn, 1) := by decide +kernel
theorem dX2_waited_12 : decode cX2_waited 12 = .ok (.iconst 0, 1) := by decide +kernel
theorem dX2_waited_13 : decode cX2_waited 13 = .ok (.istore_n 3, 1) := by decide +kernel
theorem dX2_waited_14 : decode cX2_waited 14 = .ok (.iload_n 3, 1) := by decide +kernel
theorem dX2_waited_15 : decode cX2_waited 15 = .ok (.bipush 60, 2) := by decide +kernel
theorem dX2_waited_17 : decode cX2_waited 17 = .ok (.if_icmp .gt 41, 3) := by decide +kernel
theorem dX2_waited_20 : decode cX2_waited 20 = .ok (.aload_n 0, 1) := by decide +kernel
theorem dX2_waited_21 : decode cX2_waited 21 = .ok (.getfield 19, 3) := by decide +kernel
theorem dX2_waited_24 : decode cX2_waited 24 = .ok (.aload_n 0, 1) := by decide +kernel
theorem dX2_waited_25 : decode cX2_waited 25 = .ok (.getfield 10, 3) := by decide +kernel
theorem dX2_waited_28 : decode cX2_waited 28 = .ok (.invokevirtual 152, 3) := by decide +kernel
theorem dX2_waited_31 : decode cX2_waited 31 = .ok (.aload_n 0, 1) := by decide +kernel
theorem dX2_waited_32 : decode cX2_waited 32 = .ok (.getfield 19, 3) := by decide +kernel
theorem dX2_waited_35 : decode cX2_waited 35 = .ok (.iload_n 3, 1) := by decide +kernel
theorem dX2_waited_36 : decode cX2_waited 36 = .ok (.invokevirtual 132, 3) := by decide +kernel
theorem dX2_waited_39 : decode cX2_waited 39 = .ok (.aload_n 0, 1) := by decide +kernel
theorem dX2_waited_40 : decode cX2_waited 40 = .ok (.getfield 19, 3) := by decide +kernel
theorem dX2_waited_43 : decode cX2_waited 43 = .ok (.iload_n 1, 1) := by decide +kernel
theorem dX2_waited_44 : decode cX2_waited 44 = .ok (.invokevirtual 139, 3) := by decide +kernel
theorem dX2_waited_47 : decode cX2_waited 47 = .ok (.ifCond .eq 5, 3) := by decide +kernel
theorem dX2_waited_50 : decode cX2_waited 50 = .ok (.iload_n 3, 1) := by decide +kernel
theorem dX2_waited_51 : decode cX2_waited 51 = .ok (.ireturn, 1) := by decide +kernel
theorem dX2_waited_52 : decode cX2_waited 52 = .ok (.iinc 3 1, 3) := by decide +kernel
theorem dX2_waited_55 : decode cX2_waited 55 = .ok (.goto (-41), 3) := by decide +kernel
theorem dX2_waited_58 : decode cX2_waited 58 = .ok (.bipush (-9), 2) := by decide +kernel
theorem dX2_waited_60 : decode cX2_waited 60 = .ok (.ireturn, 1) := by decide +kernel
set_option maxRecDepth 20000 in
theorem ggX2_danger_X2_refuse : GoodIn wsX2_danger wsX2_refuse := goodIn_r _ [14, 15, 16, 17, 13, 18, 19, 20, 21, 22, 23, 24, 25, 26, 27, 28, 29, 30, 31, 32, 33] (by decide +kernel) (by decide +kernel)
set_option maxRecDepth 20000 in
theorem gX2_danger_X2_refuse : GoodIn wsX2_danger (wsV RX2 56 RX2 yX2_refuse wsX2_refuse) := goodIn_app (goodIn_of _ (by decide +kernel)) ggX2_danger_X2_refuse
theorem dX2_danger_0 : decode cX2_danger 0 = .ok (.iload_n 1, 1) := by decide +kernel
theorem dX2_danger_1 : decode cX2_danger 1 = .ok (.ifCond .ge 10, 3) := by decide +kernel
theorem dX2_danger_4 : decode cX2_danger 4 = .ok (.aload_n 0, 1) := by decide +kernel
theorem dX2_danger_5 : decode cX2_danger 5 = .ok (.bipush (-4), 2) := by decide +kernel
theorem dX2_danger_7 : decode cX2_danger 7 = .ok (.invokevirtual 56, 3) := by decide +kernel
theorem dX2_danger_10 : decode cX2_danger 10 = .ok (.ireturn, 1) := by decide +kernel
theorem dX2_danger_11 : decode cX2_danger 11 = .ok (.iload_n 1, 1) := by decide +kernel
theorem dX2_danger_12 : decode cX2_danger 12 = .ok (.bipush 9, 2) := by decide +kernel
theorem dX2_danger_14 : decode cX2_danger 14 = .ok (.if_icmp .le 10, 3) := by decide +kernel
theorem dX2_danger_17 : decode cX2_danger 17 = .ok (.aload_n 0, 1) := by decide +kernel
theorem dX2_danger_18 : decode cX2_danger 18 = .ok (.bipush (-6), 2) := by decide +kernel
theorem dX2_danger_20 : decode cX2_danger 20 = .ok (.invokevirtual 56, 3) := by decide +kernel
theorem dX2_danger_23 : decode cX2_danger 23 = .ok (.ireturn, 1) := by decide +kernel
theorem dX2_danger_24 : decode cX2_danger 24 = .ok (.bipush 99, 2) := by decide +kernel
theorem dX2_danger_26 : decode cX2_danger 26 = .ok (.aload_n 0, 1) := by decide +kernel
theorem dX2_danger_27 : decode cX2_danger 27 = .ok (.getfield 10, 3) := by decide +kernel
theorem dX2_danger_30 : decode cX2_danger 30 = .ok (.getfield 167, 3) := by decide +kernel
theorem dX2_danger_33 : decode cX2_danger 33 = .ok (.iload_n 1, 1) := by decide +kernel
theorem dX2_danger_34 : decode cX2_danger 34 = .ok (.iconst 5, 1) := by decide +kernel
theorem dX2_danger_35 : decode cX2_danger 35 = .ok (.imul, 1) := by decide +kernel
theorem dX2_danger_36 : decode cX2_danger 36 = .ok (.iadd, 1) := by decide +kernel
theorem dX2_danger_37 : decode cX2_danger 37 = .ok (.invokestatic 170, 3) := by decide +kernel
theorem dX2_danger_40 : decode cX2_danger 40 = .ok (.istore_n 2, 1) := by decide +kernel
theorem dX2_danger_41 : decode cX2_danger 41 = .ok (.iconst 0, 1) := by decide +kernel
theorem dX2_danger_42 : decode cX2_danger 42 = .ok (.iload_n 2, 1) := by decide +kernel
theorem dX2_danger_43 : decode cX2_danger 43 = .ok (.bipush 9, 2) := by decide +kernel
theorem dX2_danger_45 : decode cX2_danger 45 = .ok (.isub, 1) := by decide +kernel
theorem dX2_danger_46 : decode cX2_danger 46 = .ok (.invokestatic 175, 3) := by decide +kernel
theorem dX2_danger_49 : decode cX2_danger 49 = .ok (.ireturn, 1) := by decide +kernel
set_option maxRecDepth 20000 in
theorem ggX2_went_X2_isTry : GoodIn wsX2_went wsX2_isTry := goodIn_r _ [9] (by decide +kernel) (by decide +kernel)
set_option maxRecDepth 20000 in
theorem gX2_went_X2_isTry : GoodIn wsX2_went (va_wsS RX2 103 yX2_isTry wsX2_isTry) := goodIn_app (goodIn_of _ (by decide +kernel)) ggX2_went_X2_isTry
set_option maxRecDepth 20000 in
theorem ggX2_went_X2_isEither : GoodIn wsX2_went wsX2_isEither := goodIn_r _ [12] (by decide +kernel) (by decide +kernel)
set_option maxRecDepth 20000 in
theorem gX2_went_X2_isEither : GoodIn wsX2_went (va_wsS RX2 156 yX2_isEither wsX2_isEither) := goodIn_app (goodIn_of _ (by decide +kernel)) ggX2_went_X2_isEither
set_option maxRecDepth 20000 in
theorem ggX2_went_X2_refuse : GoodIn wsX2_went wsX2_refuse := goodIn_r _ [16, 17, 18, 19, 8, 20, 21, 22, 23, 63, 64, 65, 66, 67, 68, 69, 70, 71, 72, 73, 74] (by decide +kernel) (by decide +kernel)
set_option maxRecDepth 20000 in
theorem gX2_went_X2_refuse : GoodIn wsX2_went (wsV RX2 56 RX2 yX2_refuse wsX2_refuse) := goodIn_app (goodIn_of _ (by decide +kernel)) ggX2_went_X2_refuse
set_option maxRecDepth 20000 in
theorem ggX2_went_X0_copyFrom : GoodIn wsX2_went wsX0_copyFrom := goodIn_r _ [28, 29, 30, 31, 32, 33, 34, 35, 36, 37, 38, 39, 40, 41, 42, 43, 44, 75, 76, 77, 78, 79, 80, 81, 82, 83, 84, 85, 86] (by decide +kernel) (by decide +kernel)
set_option maxRecDepth 20000 in
theorem gX2_went_X0_copyFrom : GoodIn wsX2_went (wsV RX2 152 RX0 yX0_copyFrom wsX0_copyFrom) := goodIn_app (goodIn_of _ (by decide +kernel)) ggX2_went_X0_copyFrom
set_option maxRecDepth 20000 in
theorem ggX2_went_X0_thickestNow : GoodIn wsX2_went wsX0_thickestNow := goodIn_r _ [48, 35, 49, 50, 51, 52, 53, 54, 55, 27, 56, 29, 34, 39, 40, 42, 19, 8, 20, 57, 58, 59, 75, 76, 77, 78, 79, 80, 81, 82, 83, 84, 85, 86] (by decide +kernel) (by decide +kernel)
set_option maxRecDepth 20000 in
theorem gX2_went_X0_thickestNow : GoodIn wsX2_went (wsV RX2 217 RX0 yX0_thickestNow wsX0_thickestNow) := goodIn_app (goodIn_of _ (by decide +kernel)) ggX2_went_X0_thickestNow
set_option maxRecDepth 20000 in
theorem ggX2_went_X2_allowance : GoodIn wsX2_went wsX2_allowance := goodIn_r _ [62] (by decide +kernel) (by decide +kernel)
set_option maxRecDepth 20000 in
theorem gX2_went_X2_allowance : GoodIn wsX2_went (va_wsS RX2 110 yX2_allowance wsX2_allowance) := goodIn_app (goodIn_of _ (by decide +kernel)) ggX2_went_X2_allowance
theorem dX2_went_0 : decode cX2_went 0 = .ok (.iload_n 1, 1) := by decide +kernel
theorem dX2_went_1 : decode cX2_went 1 = .ok (.invokestatic 103, 3) := by decide +kernel
theorem dX2_went_4 : decode cX2_went 4 = .ok (.ifCond .eq 10, 3) := by decide +kernel
theorem dX2_went_7 : decode cX2_went 7 = .ok (.iload_n 2, 1) := by decide +kernel
theorem dX2_went_8 : decode cX2_went 8 = .ok (.invokestatic 156, 3) := by decide +kernel
theorem dX2_went_11 : decode cX2_went 11 = .ok (.ifCond .ne 10, 3) := by decide +kernel
theorem dX2_went_14 : decode cX2_went 14 = .ok (.aload_n 0, 1) := by decide +kernel
theorem dX2_went_15 : decode cX2_went 15 = .ok (.bipush (-2), 2) := by decide +kernel
theorem dX2_went_17 : decode cX2_went 17 = .ok (.invokevirtual 56, 3) := by decide +kernel
theorem dX2_went_20 : decode cX2_went 20 = .ok (.ireturn, 1) := by decide +kernel
theorem dX2_went_21 : decode cX2_went 21 = .ok (.iconst 0, 1) := by decide +kernel
theorem dX2_went_22 : decode cX2_went 22 = .ok (.istore_n 3, 1) := by decide +kernel
theorem dX2_went_23 : decode cX2_went 23 = .ok (.bipush (-9), 2) := by decide +kernel
theorem dX2_went_25 : decode cX2_went 25 = .ok (.istore 4, 2) := by decide +kernel
theorem dX2_went_27 : decode cX2_went 27 = .ok (.aload_n 0, 1) := by decide +kernel
theorem dX2_went_28 : decode cX2_went 28 = .ok (.getfield 19, 3) := by decide +kernel
theorem dX2_went_31 : decode cX2_went 31 = .ok (.aload_n 0, 1) := by decide +kernel
theorem dX2_went_32 : decode cX2_went 32 = .ok (.getfield 10, 3) := by decide +kernel
theorem dX2_went_35 : decode cX2_went 35 = .ok (.invokevirtual 152, 3) := by decide +kernel
theorem dX2_went_38 : decode cX2_went 38 = .ok (.iconst 0, 1) := by decide +kernel
theorem dX2_went_39 : decode cX2_went 39 = .ok (.istore 5, 2) := by decide +kernel
theorem dX2_went_41 : decode cX2_went 41 = .ok (.iload 5, 2) := by decide +kernel
theorem dX2_went_43 : decode cX2_went 43 = .ok (.bipush 30, 2) := by decide +kernel
theorem dX2_went_45 : decode cX2_went 45 = .ok (.if_icmp .gt 54, 3) := by decide +kernel
theorem dX2_went_48 : decode cX2_went 48 = .ok (.aload_n 0, 1) := by decide +kernel
theorem dX2_went_49 : decode cX2_went 49 = .ok (.getfield 19, 3) := by decide +kernel
theorem dX2_went_52 : decode cX2_went 52 = .ok (.iload 5, 2) := by decide +kernel
theorem dX2_went_54 : decode cX2_went 54 = .ok (.putfield 214, 3) := by decide +kernel
theorem dX2_went_57 : decode cX2_went 57 = .ok (.aload_n 0, 1) := by decide +kernel
theorem dX2_went_58 : decode cX2_went 58 = .ok (.getfield 19, 3) := by decide +kernel
theorem dX2_went_61 : decode cX2_went 61 = .ok (.invokevirtual 217, 3) := by decide +kernel
theorem dX2_went_64 : decode cX2_went 64 = .ok (.aload_n 0, 1) := by decide +kernel
theorem dX2_went_65 : decode cX2_went 65 = .ok (.getfield 19, 3) := by decide +kernel
theorem dX2_went_68 : decode cX2_went 68 = .ok (.getfield 146, 3) := by decide +kernel
theorem dX2_went_71 : decode cX2_went 71 = .ok (.iload_n 1, 1) := by decide +kernel
theorem dX2_went_72 : decode cX2_went 72 = .ok (.aload_n 0, 1) := by decide +kernel
theorem dX2_went_73 : decode cX2_went 73 = .ok (.getfield 19, 3) := by decide +kernel
theorem dX2_went_76 : decode cX2_went 76 = .ok (.getfield 107, 3) := by decide +kernel
theorem dX2_went_79 : decode cX2_went 79 = .ok (.invokestatic 110, 3) := by decide +kernel
theorem dX2_went_82 : decode cX2_went 82 = .ok (.iadd, 1) := by decide +kernel
theorem dX2_went_83 : decode cX2_went 83 = .ok (.if_icmp .gt 10, 3) := by decide +kernel
theorem dX2_went_86 : decode cX2_went 86 = .ok (.iinc 3 1, 3) := by decide +kernel
theorem dX2_went_89 : decode cX2_went 89 = .ok (.iload 5, 2) := by decide +kernel
theorem dX2_went_91 : decode cX2_went 91 = .ok (.istore 4, 2) := by decide +kernel
theorem dX2_went_93 : decode cX2_went 93 = .ok (.iinc 5 1, 3) := by decide +kernel
theorem dX2_went_96 : decode cX2_went 96 = .ok (.goto (-55), 3) := by decide +kernel
theorem dX2_went_99 : decode cX2_went 99 = .ok (.iload_n 2, 1) := by decide +kernel
theorem dX2_went_100 : decode cX2_went 100 = .ok (.ifCond .ne 7, 3) := by decide +kernel
theorem dX2_went_103 : decode cX2_went 103 = .ok (.iload_n 3, 1) := by decide +kernel
theorem dX2_went_104 : decode cX2_went 104 = .ok (.goto 5, 3) := by decide +kernel
theorem dX2_went_107 : decode cX2_went 107 = .ok (.iload 4, 2) := by decide +kernel
theorem dX2_went_109 : decode cX2_went 109 = .ok (.ireturn, 1) := by decide +kernel
set_option maxRecDepth 20000 in
theorem ggX2_lots_X2_refuse : GoodIn wsX2_lots wsX2_refuse := goodIn_r _ [6, 7, 8, 9, 5, 10, 11, 12, 13, 82, 83, 84, 85, 86, 87, 88, 89, 90, 91, 92, 93] (by decide +kernel) (by decide +kernel)
set_option maxRecDepth 20000 in
theorem gX2_lots_X2_refuse : GoodIn wsX2_lots (wsV RX2 56 RX2 yX2_refuse wsX2_refuse) := goodIn_app (goodIn_of _ (by decide +kernel)) ggX2_lots_X2_refuse
set_option maxRecDepth 20000 in
theorem ggX2_lots_X2_eveningHarm : GoodIn wsX2_lots wsX2_eveningHarm := goodIn_r _ [17, 18, 19, 20, 21, 22, 23, 24, 25, 26, 27, 28, 29, 30, 31, 32, 33, 34, 35, 36, 37, 38, 39, 40, 41, 42, 43, 44, 45, 5, 46, 1, 47, 48, 49, 50, 51, 52, 53, 54, 55, 56, 57, 58, 59, 60, 61, 62, 9, 10, 63, 64, 65, 66, 67, 68, 69, 70, 71, 72, 73, 74, 75, 76, 77, 78, 79, 80, 81, 82, 83, 84, 85, 86, 87, 88, 89, 90, 91, 92, 93, 94, 95, 96, 97, 98, 99, 100, 101, 102, 103, 104, 105] (by decide +kernel) (by decide +kernel)
set_option maxRecDepth 20000 in
theorem gX2_lots_X2_eveningHarm : GoodIn wsX2_lots (wsV RX2 232 RX2 yX2_eveningHarm wsX2_eveningHarm) := goodIn_app (goodIn_of _ (by decide +kernel)) ggX2_lots_X2_eveningHarm
theorem dX2_lots_0 : decode cX2_lots 0 = .ok (.iload_n 1, 1) := by decide +kernel
theorem dX2_lots_1 : decode cX2_lots 1 = .ok (.iconst 1, 1) := by decide +kernel
theorem dX2_lots_2 : decode cX2_lots 2 = .ok (.if_icmp .ge 10, 3) := by decide +kernel
theorem dX2_lots_5 : decode cX2_lots 5 = .ok (.aload_n 0, 1) := by decide +kernel
theorem dX2_lots_6 : decode cX2_lots 6 = .ok (.bipush (-4), 2) := by decide +kernel
theorem dX2_lots_8 : decode cX2_lots 8 = .ok (.invokevirtual 56, 3) := by decide +kernel
theorem dX2_lots_11 : decode cX2_lots 11 = .ok (.ireturn, 1) := by decide +kernel
theorem dX2_lots_12 : decode cX2_lots 12 = .ok (.iload_n 1, 1) := by decide +kernel
theorem dX2_lots_13 : decode cX2_lots 13 = .ok (.bipush 20, 2) := by decide +kernel
theorem dX2_lots_15 : decode cX2_lots 15 = .ok (.if_icmp .le 10, 3) := by decide +kernel
theorem dX2_lots_18 : decode cX2_lots 18 = .ok (.aload_n 0, 1) := by decide +kernel
theorem dX2_lots_19 : decode cX2_lots 19 = .ok (.bipush (-6), 2) := by decide +kernel
theorem dX2_lots_21 : decode cX2_lots 21 = .ok (.invokevirtual 56, 3) := by decide +kernel
theorem dX2_lots_24 : decode cX2_lots 24 = .ok (.ireturn, 1) := by decide +kernel
theorem dX2_lots_25 : decode cX2_lots 25 = .ok (.aload_n 0, 1) := by decide +kernel
theorem dX2_lots_26 : decode cX2_lots 26 = .ok (.iload_n 2, 1) := by decide +kernel
theorem dX2_lots_27 : decode cX2_lots 27 = .ok (.putfield 53, 3) := by decide +kernel
theorem dX2_lots_30 : decode cX2_lots 30 = .ok (.iconst 0, 1) := by decide +kernel
theorem dX2_lots_31 : decode cX2_lots 31 = .ok (.istore_n 3, 1) := by decide +kernel
theorem dX2_lots_32 : decode cX2_lots 32 = .ok (.iconst 0, 1) := by decide +kernel
theorem dX2_lots_33 : decode cX2_lots 33 = .ok (.istore 4, 2) := by decide +kernel
theorem dX2_lots_35 : decode cX2_lots 35 = .ok (.iload 4, 2) := by decide +kernel
theorem dX2_lots_37 : decode cX2_lots 37 = .ok (.iload_n 1, 1) := by decide +kernel
theorem dX2_lots_38 : decode cX2_lots 38 = .ok (.if_icmp .ge 16, 3) := by decide +kernel
theorem dX2_lots_41 : decode cX2_lots 41 = .ok (.iload_n 3, 1) := by decide +kernel
theorem dX2_lots_42 : decode cX2_lots 42 = .ok (.aload_n 0, 1) := by decide +kernel
theorem dX2_lots_43 : decode cX2_lots 43 = .ok (.invokevirtual 232, 3) := by decide +kernel
theorem dX2_lots_46 : decode cX2_lots 46 = .ok (.iadd, 1) := by decide +kernel
theorem dX2_lots_47 : decode cX2_lots 47 = .ok (.istore_n 3, 1) := by decide +kernel
theorem dX2_lots_48 : decode cX2_lots 48 = .ok (.iinc 4 1, 3) := by decide +kernel
theorem dX2_lots_51 : decode cX2_lots 51 = .ok (.goto (-16), 3) := by decide +kernel
theorem dX2_lots_54 : decode cX2_lots 54 = .ok (.iload_n 3, 1) := by decide +kernel
theorem dX2_lots_55 : decode cX2_lots 55 = .ok (.ireturn, 1) := by decide +kernel
set_option maxRecDepth 20000 in
theorem ggX2_image_X0_copyFrom : GoodIn wsX2_image wsX0_copyFrom := goodIn_r _ [9, 10, 11, 12, 13, 14, 15, 16, 17, 18, 19, 20, 21, 22, 23, 24, 25, 38, 39, 40, 41, 42, 43, 44, 45, 46, 47, 48, 49] (by decide +kernel) (by decide +kernel)
set_option maxRecDepth 20000 in
theorem gX2_image_X0_copyFrom : GoodIn wsX2_image (wsV RX2 152 RX0 yX0_copyFrom wsX0_copyFrom) := goodIn_app (goodIn_of _ (by decide +kernel)) ggX2_image_X0_copyFrom
theorem dX2_image_0 : decode cX2_image 0 = .ok (.aload_n 0, 1) := by decide +kernel
theorem dX2_image_1 : decode cX2_image 1 = .ok (.getfield 16, 3) := by decide +kernel
theorem dX2_image_4 : decode cX2_image 4 = .ok (.aload_n 0, 1) := by decide +kernel
theorem dX2_image_5 : decode cX2_image 5 = .ok (.getfield 10, 3) := by decide +kernel
theorem dX2_image_8 : decode cX2_image 8 = .ok (.invokevirtual 152, 3) := by decide +kernel
theorem dX2_image_11 : decode cX2_image 11 = .ok (.aload_n 0, 1) := by decide +kernel
theorem dX2_image_12 : decode cX2_image 12 = .ok (.iconst 1, 1) := by decide +kernel
theorem dX2_image_13 : decode cX2_image 13 = .ok (.putfield 49, 3) := by decide +kernel
theorem dX2_image_16 : decode cX2_image 16 = .ok (.aload_n 0, 1) := by decide +kernel
theorem dX2_image_17 : decode cX2_image 17 = .ok (.getfield 10, 3) := by decide +kernel
theorem dX2_image_20 : decode cX2_image 20 = .ok (.getfield 136, 3) := by decide +kernel
theorem dX2_image_23 : decode cX2_image 23 = .ok (.ireturn, 1) := by decide +kernel
set_option maxRecDepth 20000 in
theorem ggX2_on_X2_refuse : GoodIn wsX2_on wsX2_refuse := goodIn_r _ [9, 10, 11, 12, 8, 13, 14, 15, 16, 38, 39, 40, 41, 42, 43, 44, 45, 46, 47, 48, 49] (by decide +kernel) (by decide +kernel)
set_option maxRecDepth 20000 in
theorem gX2_on_X2_refuse : GoodIn wsX2_on (wsV RX2 56 RX2 yX2_refuse wsX2_refuse) := goodIn_app (goodIn_of _ (by decide +kernel)) ggX2_on_X2_refuse
set_option maxRecDepth 20000 in
theorem ggX2_on_X0_copyFrom : GoodIn wsX2_on wsX0_copyFrom := goodIn_r _ [21, 22, 23, 24, 25, 26, 27, 28, 29, 30, 31, 32, 33, 34, 35, 36, 37, 50, 51, 52, 53, 54, 55, 56, 57, 58, 59, 60, 61] (by decide +kernel) (by decide +kernel)
set_option maxRecDepth 20000 in
theorem gX2_on_X0_copyFrom : GoodIn wsX2_on (wsV RX2 152 RX0 yX0_copyFrom wsX0_copyFrom) := goodIn_app (goodIn_of _ (by decide +kernel)) ggX2_on_X0_copyFrom
theorem dX2_on_0 : decode cX2_on 0 = .ok (.aload_n 0, 1) := by decide +kernel
theorem dX2_on_1 : decode cX2_on 1 = .ok (.getfield 49, 3) := by decide +kernel
theorem dX2_on_4 : decode cX2_on 4 = .ok (.ifCond .ne 10, 3) := by decide +kernel
theorem dX2_on_7 : decode cX2_on 7 = .ok (.aload_n 0, 1) := by decide +kernel
theorem dX2_on_8 : decode cX2_on 8 = .ok (.bipush (-3), 2) := by decide +kernel
theorem dX2_on_10 : decode cX2_on 10 = .ok (.invokevirtual 56, 3) := by decide +kernel
theorem dX2_on_13 : decode cX2_on 13 = .ok (.ireturn, 1) := by decide +kernel
theorem dX2_on_14 : decode cX2_on 14 = .ok (.aload_n 0, 1) := by decide +kernel
theorem dX2_on_15 : decode cX2_on 15 = .ok (.getfield 10, 3) := by decide +kernel
theorem dX2_on_18 : decode cX2_on 18 = .ok (.aload_n 0, 1) := by decide +kernel
theorem dX2_on_19 : decode cX2_on 19 = .ok (.getfield 16, 3) := by decide +kernel
theorem dX2_on_22 : decode cX2_on 22 = .ok (.invokevirtual 152, 3) := by decide +kernel
theorem dX2_on_25 : decode cX2_on 25 = .ok (.aload_n 0, 1) := by decide +kernel
theorem dX2_on_26 : decode cX2_on 26 = .ok (.getfield 10, 3) := by decide +kernel
theorem dX2_on_29 : decode cX2_on 29 = .ok (.getfield 136, 3) := by decide +kernel
theorem dX2_on_32 : decode cX2_on 32 = .ok (.ireturn, 1) := by decide +kernel
set_option maxRecDepth 20000 in
theorem ggX2_count_X2_at : GoodIn wsX2_count wsX2_at := goodIn_r _ [18] (by decide +kernel) (by decide +kernel)
set_option maxRecDepth 20000 in
theorem gX2_count_X2_at : GoodIn wsX2_count (va_wsS RX2 77 yX2_at wsX2_at) := goodIn_app (goodIn_of _ (by decide +kernel)) ggX2_count_X2_at
theorem dX2_count_0 : decode cX2_count 0 = .ok (.iload_n 1, 1) := by decide +kernel
theorem dX2_count_1 : decode cX2_count 1 = .ok (.bipush 10, 2) := by decide +kernel
theorem dX2_count_3 : decode cX2_count 3 = .ok (.if_icmp .le 21, 3) := by decide +kernel
theorem dX2_count_6 : decode cX2_count 6 = .ok (.iload_n 1, 1) := by decide +kernel
theorem dX2_count_7 : decode cX2_count 7 = .ok (.bipush 17, 2) := by decide +kernel
theorem dX2_count_9 : decode cX2_count 9 = .ok (.if_icmp .ge 15, 3) := by decide +kernel
theorem dX2_count_12 : decode cX2_count 12 = .ok (.aload_n 0, 1) := by decide +kernel
theorem dX2_count_13 : decode cX2_count 13 = .ok (.getfield 39, 3) := by decide +kernel
theorem dX2_count_16 : decode cX2_count 16 = .ok (.iload_n 1, 1) := by decide +kernel
theorem dX2_count_17 : decode cX2_count 17 = .ok (.bipush 10, 2) := by decide +kernel
theorem dX2_count_19 : decode cX2_count 19 = .ok (.isub, 1) := by decide +kernel
theorem dX2_count_20 : decode cX2_count 20 = .ok (.invokestatic 77, 3) := by decide +kernel
theorem dX2_count_23 : decode cX2_count 23 = .ok (.ireturn, 1) := by decide +kernel
theorem dX2_count_24 : decode cX2_count 24 = .ok (.iload_n 1, 1) := by decide +kernel
theorem dX2_count_25 : decode cX2_count 25 = .ok (.tableswitch 177 0 17 #[87, 95, 103, 111, 119, 127, 135, 143, 151, 156, 161, 177, 177, 177, 177, 177, 177, 169], 87) := by decide +kernel
theorem dX2_count_112 : decode cX2_count 112 = .ok (.aload_n 0, 1) := by decide +kernel
theorem dX2_count_113 : decode cX2_count 113 = .ok (.getfield 10, 3) := by decide +kernel
theorem dX2_count_116 : decode cX2_count 116 = .ok (.getfield 71, 3) := by decide +kernel
theorem dX2_count_119 : decode cX2_count 119 = .ok (.ireturn, 1) := by decide +kernel
theorem dX2_count_120 : decode cX2_count 120 = .ok (.aload_n 0, 1) := by decide +kernel
theorem dX2_count_121 : decode cX2_count 121 = .ok (.getfield 10, 3) := by decide +kernel
theorem dX2_count_124 : decode cX2_count 124 = .ok (.getfield 100, 3) := by decide +kernel
theorem dX2_count_127 : decode cX2_count 127 = .ok (.ireturn, 1) := by decide +kernel
theorem dX2_count_128 : decode cX2_count 128 = .ok (.aload_n 0, 1) := by decide +kernel
theorem dX2_count_129 : decode cX2_count 129 = .ok (.getfield 10, 3) := by decide +kernel
theorem dX2_count_132 : decode cX2_count 132 = .ok (.getfield 214, 3) := by decide +kernel
theorem dX2_count_135 : decode cX2_count 135 = .ok (.ireturn, 1) := by decide +kernel
theorem dX2_count_136 : decode cX2_count 136 = .ok (.aload_n 0, 1) := by decide +kernel
theorem dX2_count_137 : decode cX2_count 137 = .ok (.getfield 10, 3) := by decide +kernel
theorem dX2_count_140 : decode cX2_count 140 = .ok (.getfield 235, 3) := by decide +kernel
theorem dX2_count_143 : decode cX2_count 143 = .ok (.ireturn, 1) := by decide +kernel
theorem dX2_count_144 : decode cX2_count 144 = .ok (.aload_n 0, 1) := by decide +kernel
theorem dX2_count_145 : decode cX2_count 145 = .ok (.getfield 10, 3) := by decide +kernel
theorem dX2_count_148 : decode cX2_count 148 = .ok (.getfield 167, 3) := by decide +kernel
theorem dX2_count_151 : decode cX2_count 151 = .ok (.ireturn, 1) := by decide +kernel
theorem dX2_count_152 : decode cX2_count 152 = .ok (.aload_n 0, 1) := by decide +kernel
theorem dX2_count_153 : decode cX2_count 153 = .ok (.getfield 10, 3) := by decide +kernel
theorem dX2_count_156 : decode cX2_count 156 = .ok (.getfield 136, 3) := by decide +kernel
theorem dX2_count_159 : decode cX2_count 159 = .ok (.ireturn, 1) := by decide +kernel
theorem dX2_count_160 : decode cX2_count 160 = .ok (.aload_n 0, 1) := by decide +kernel
theorem dX2_count_161 : decode cX2_count 161 = .ok (.getfield 10, 3) := by decide +kernel
theorem dX2_count_164 : decode cX2_count 164 = .ok (.getfield 238, 3) := by decide +kernel
theorem dX2_count_167 : decode cX2_count 167 = .ok (.ireturn, 1) := by decide +kernel
theorem dX2_count_168 : decode cX2_count 168 = .ok (.aload_n 0, 1) := by decide +kernel
theorem dX2_count_169 : decode cX2_count 169 = .ok (.getfield 10, 3) := by decide +kernel
theorem dX2_count_172 : decode cX2_count 172 = .ok (.getfield 146, 3) := by decide +kernel
theorem dX2_count_175 : decode cX2_count 175 = .ok (.ireturn, 1) := by decide +kernel
theorem dX2_count_176 : decode cX2_count 176 = .ok (.aload_n 0, 1) := by decide +kernel
theorem dX2_count_177 : decode cX2_count 177 = .ok (.getfield 46, 3) := by decide +kernel
theorem dX2_count_180 : decode cX2_count 180 = .ok (.ireturn, 1) := by decide +kernel
theorem dX2_count_181 : decode cX2_count 181 = .ok (.aload_n 0, 1) := by decide +kernel
theorem dX2_count_182 : decode cX2_count 182 = .ok (.getfield 42, 3) := by decide +kernel
theorem dX2_count_185 : decode cX2_count 185 = .ok (.ireturn, 1) := by decide +kernel
theorem dX2_count_186 : decode cX2_count 186 = .ok (.aload_n 0, 1) := by decide +kernel
theorem dX2_count_187 : decode cX2_count 187 = .ok (.getfield 10, 3) := by decide +kernel
theorem dX2_count_190 : decode cX2_count 190 = .ok (.getfield 241, 3) := by decide +kernel
theorem dX2_count_193 : decode cX2_count 193 = .ok (.ireturn, 1) := by decide +kernel
theorem dX2_count_194 : decode cX2_count 194 = .ok (.aload_n 0, 1) := by decide +kernel
theorem dX2_count_195 : decode cX2_count 195 = .ok (.getfield 10, 3) := by decide +kernel
theorem dX2_count_198 : decode cX2_count 198 = .ok (.getfield 107, 3) := by decide +kernel
theorem dX2_count_201 : decode cX2_count 201 = .ok (.ireturn, 1) := by decide +kernel
theorem dX2_count_202 : decode cX2_count 202 = .ok (.bipush (-9), 2) := by decide +kernel
theorem dX2_count_204 : decode cX2_count 204 = .ok (.ireturn, 1) := by decide +kernel
set_option maxRecDepth 20000 in
theorem ggX2_refuse_X2_at : GoodIn wsX2_refuse wsX2_at := goodIn_r _ [5] (by decide +kernel) (by decide +kernel)
set_option maxRecDepth 20000 in
theorem gX2_refuse_X2_at : GoodIn wsX2_refuse (va_wsS RX2 77 yX2_at wsX2_at) := goodIn_app (goodIn_of _ (by decide +kernel)) ggX2_refuse_X2_at
set_option maxRecDepth 20000 in
theorem ggX2_refuse_X2_put : GoodIn wsX2_refuse wsX2_put := goodIn_r _ [8] (by decide +kernel) (by decide +kernel)
set_option maxRecDepth 20000 in
theorem gX2_refuse_X2_put : GoodIn wsX2_refuse (va_wsS RX2 60 yX2_put wsX2_put) := goodIn_app (goodIn_of _ (by decide +kernel)) ggX2_refuse_X2_put
