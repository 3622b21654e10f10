set_option maxRecDepth 20000 in
theorem ggX2_init_X0_init : GoodIn wsX2_init wsX0_init := goodIn_r _ [24, 25, 2, 3, 14, 26, 27, 28, 29, 30, 31, 32, 33, 34, 35, 36, 37, 49, 50, 51, 52, 53, 54, 55, 56, 57, 58, 59, 60] (by decide +kernel) (by decide +kernel)
set_option maxRecDepth 20000 in
theorem gX2_init_X0_init_n9 : GoodIn wsX2_init (wsX0_init) := ggX2_init_X0_init
set_option maxRecDepth 20000 in
theorem ggX2_init_X1_init : GoodIn wsX2_init wsX1_init := goodIn_r _ [39, 40, 2, 3, 41, 5, 6, 42, 14, 43, 44, 45, 46, 47, 48, 23, 24, 25, 26, 27, 28, 29, 30, 31, 32, 33, 34, 35, 36, 37, 49, 50, 51, 52, 53, 54, 55, 56, 57, 58, 59, 60, 73, 74, 75, 76, 77, 78, 79] (by decide +kernel) (by decide +kernel)
set_option maxRecDepth 20000 in
theorem gX2_init_X1_init_n24 : GoodIn wsX2_init (wsX1_init) := ggX2_init_X1_init
theorem dX2_init_0 : decode cX2_init 0 = .ok (.aload_n 0, 1) := by decide +kernel
theorem dX2_init_1 : decode cX2_init 1 = .ok (.invokespecial 1, 3) := by decide +kernel
theorem dX2_init_4 : decode cX2_init 4 = .ok (.aload_n 0, 1) := by decide +kernel
theorem dX2_init_5 : decode cX2_init 5 = .ok (.new 7, 3) := by decide +kernel
theorem dX2_init_8 : decode cX2_init 8 = .ok (.dup, 1) := by decide +kernel
theorem dX2_init_9 : decode cX2_init 9 = .ok (.invokespecial 9, 3) := by decide +kernel
theorem dX2_init_12 : decode cX2_init 12 = .ok (.putfield 10, 3) := by decide +kernel
theorem dX2_init_15 : decode cX2_init 15 = .ok (.aload_n 0, 1) := by decide +kernel
theorem dX2_init_16 : decode cX2_init 16 = .ok (.new 7, 3) := by decide +kernel
theorem dX2_init_19 : decode cX2_init 19 = .ok (.dup, 1) := by decide +kernel
theorem dX2_init_20 : decode cX2_init 20 = .ok (.invokespecial 9, 3) := by decide +kernel
theorem dX2_init_23 : decode cX2_init 23 = .ok (.putfield 16, 3) := by decide +kernel
theorem dX2_init_26 : decode cX2_init 26 = .ok (.aload_n 0, 1) := by decide +kernel
theorem dX2_init_27 : decode cX2_init 27 = .ok (.new 7, 3) := by decide +kernel
theorem dX2_init_30 : decode cX2_init 30 = .ok (.dup, 1) := by decide +kernel
theorem dX2_init_31 : decode cX2_init 31 = .ok (.invokespecial 9, 3) := by decide +kernel
theorem dX2_init_34 : decode cX2_init 34 = .ok (.putfield 19, 3) := by decide +kernel
theorem dX2_init_37 : decode cX2_init 37 = .ok (.aload_n 0, 1) := by decide +kernel
theorem dX2_init_38 : decode cX2_init 38 = .ok (.new 22, 3) := by decide +kernel
theorem dX2_init_41 : decode cX2_init 41 = .ok (.dup, 1) := by decide +kernel
theorem dX2_init_42 : decode cX2_init 42 = .ok (.invokespecial 24, 3) := by decide +kernel
theorem dX2_init_45 : decode cX2_init 45 = .ok (.putfield 25, 3) := by decide +kernel
theorem dX2_init_48 : decode cX2_init 48 = .ok (.aload_n 0, 1) := by decide +kernel
theorem dX2_init_49 : decode cX2_init 49 = .ok (.bipush 96, 2) := by decide +kernel
theorem dX2_init_51 : decode cX2_init 51 = .ok (.newarray .int, 2) := by decide +kernel
theorem dX2_init_53 : decode cX2_init 53 = .ok (.putfield 29, 3) := by decide +kernel
theorem dX2_init_56 : decode cX2_init 56 = .ok (.aload_n 0, 1) := by decide +kernel
theorem dX2_init_57 : decode cX2_init 57 = .ok (.bipush 12, 2) := by decide +kernel
theorem dX2_init_59 : decode cX2_init 59 = .ok (.newarray .int, 2) := by decide +kernel
theorem dX2_init_61 : decode cX2_init 61 = .ok (.putfield 33, 3) := by decide +kernel
theorem dX2_init_64 : decode cX2_init 64 = .ok (.aload_n 0, 1) := by decide +kernel
theorem dX2_init_65 : decode cX2_init 65 = .ok (.bipush 12, 2) := by decide +kernel
theorem dX2_init_67 : decode cX2_init 67 = .ok (.newarray .int, 2) := by decide +kernel
theorem dX2_init_69 : decode cX2_init 69 = .ok (.putfield 36, 3) := by decide +kernel
theorem dX2_init_72 : decode cX2_init 72 = .ok (.aload_n 0, 1) := by decide +kernel
theorem dX2_init_73 : decode cX2_init 73 = .ok (.bipush 7, 2) := by decide +kernel
theorem dX2_init_75 : decode cX2_init 75 = .ok (.newarray .int, 2) := by decide +kernel
theorem dX2_init_77 : decode cX2_init 77 = .ok (.putfield 39, 3) := by decide +kernel
theorem dX2_init_80 : decode cX2_init 80 = .ok (.aload_n 0, 1) := by decide +kernel
theorem dX2_init_81 : decode cX2_init 81 = .ok (.iconst 0, 1) := by decide +kernel
theorem dX2_init_82 : decode cX2_init 82 = .ok (.putfield 42, 3) := by decide +kernel
theorem dX2_init_85 : decode cX2_init 85 = .ok (.aload_n 0, 1) := by decide +kernel
theorem dX2_init_86 : decode cX2_init 86 = .ok (.iconst 0, 1) := by decide +kernel
theorem dX2_init_87 : decode cX2_init 87 = .ok (.putfield 46, 3) := by decide +kernel
theorem dX2_init_90 : decode cX2_init 90 = .ok (.aload_n 0, 1) := by decide +kernel
theorem dX2_init_91 : decode cX2_init 91 = .ok (.iconst 0, 1) := by decide +kernel
theorem dX2_init_92 : decode cX2_init 92 = .ok (.putfield 49, 3) := by decide +kernel
theorem dX2_init_95 : decode cX2_init 95 = .ok (.aload_n 0, 1) := by decide +kernel
theorem dX2_init_96 : decode cX2_init 96 = .ok (.iconst 0, 1) := by decide +kernel
theorem dX2_init_97 : decode cX2_init 97 = .ok (.putfield 53, 3) := by decide +kernel
theorem dX2_init_100 : decode cX2_init 100 = .ok (.return_, 1) := by decide +kernel
set_option maxRecDepth 20000 in
theorem ggX2_letter_X2_refuse : GoodIn wsX2_letter wsX2_refuse := goodIn_r _ [7, 8, 9, 10, 6, 11, 12, 13, 14, 15, 16, 17, 18, 19, 20, 21, 22, 23, 24, 25, 26] (by decide +kernel) (by decide +kernel)
set_option maxRecDepth 20000 in
theorem gX2_letter_X2_refuse : GoodIn wsX2_letter (wsV RX2 56 RX2 yX2_refuse wsX2_refuse) := goodIn_app (goodIn_of _ (by decide +kernel)) ggX2_letter_X2_refuse
set_option maxRecDepth 20000 in
theorem ggX2_letter_X2_put : GoodIn wsX2_letter wsX2_put := goodIn_r _ [14] (by decide +kernel) (by decide +kernel)
set_option maxRecDepth 20000 in
theorem gX2_letter_X2_put : GoodIn wsX2_letter (va_wsS RX2 60 yX2_put wsX2_put) := goodIn_app (goodIn_of _ (by decide +kernel)) ggX2_letter_X2_put
theorem dX2_letter_0 : decode cX2_letter 0 = .ok (.iload_n 1, 1) := by decide +kernel
theorem dX2_letter_1 : decode cX2_letter 1 = .ok (.ifCond .ge 10, 3) := by decide +kernel
theorem dX2_letter_4 : decode cX2_letter 4 = .ok (.aload_n 0, 1) := by decide +kernel
theorem dX2_letter_5 : decode cX2_letter 5 = .ok (.bipush (-4), 2) := by decide +kernel
theorem dX2_letter_7 : decode cX2_letter 7 = .ok (.invokevirtual 56, 3) := by decide +kernel
theorem dX2_letter_10 : decode cX2_letter 10 = .ok (.ireturn, 1) := by decide +kernel
theorem dX2_letter_11 : decode cX2_letter 11 = .ok (.iload_n 1, 1) := by decide +kernel
theorem dX2_letter_12 : decode cX2_letter 12 = .ok (.sipush 255, 3) := by decide +kernel
theorem dX2_letter_15 : decode cX2_letter 15 = .ok (.if_icmp .gt 12, 3) := by decide +kernel
theorem dX2_letter_18 : decode cX2_letter 18 = .ok (.aload_n 0, 1) := by decide +kernel
theorem dX2_letter_19 : decode cX2_letter 19 = .ok (.getfield 42, 3) := by decide +kernel
theorem dX2_letter_22 : decode cX2_letter 22 = .ok (.bipush 96, 2) := by decide +kernel
theorem dX2_letter_24 : decode cX2_letter 24 = .ok (.if_icmp .lt 10, 3) := by decide +kernel
theorem dX2_letter_27 : decode cX2_letter 27 = .ok (.aload_n 0, 1) := by decide +kernel
theorem dX2_letter_28 : decode cX2_letter 28 = .ok (.bipush (-6), 2) := by decide +kernel
theorem dX2_letter_30 : decode cX2_letter 30 = .ok (.invokevirtual 56, 3) := by decide +kernel
theorem dX2_letter_33 : decode cX2_letter 33 = .ok (.ireturn, 1) := by decide +kernel
theorem dX2_letter_34 : decode cX2_letter 34 = .ok (.aload_n 0, 1) := by decide +kernel
theorem dX2_letter_35 : decode cX2_letter 35 = .ok (.getfield 29, 3) := by decide +kernel
theorem dX2_letter_38 : decode cX2_letter 38 = .ok (.aload_n 0, 1) := by decide +kernel
theorem dX2_letter_39 : decode cX2_letter 39 = .ok (.getfield 42, 3) := by decide +kernel
theorem dX2_letter_42 : decode cX2_letter 42 = .ok (.iload_n 1, 1) := by decide +kernel
theorem dX2_letter_43 : decode cX2_letter 43 = .ok (.invokestatic 60, 3) := by decide +kernel
theorem dX2_letter_46 : decode cX2_letter 46 = .ok (.aload_n 0, 1) := by decide +kernel
theorem dX2_letter_47 : decode cX2_letter 47 = .ok (.dup, 1) := by decide +kernel
theorem dX2_letter_48 : decode cX2_letter 48 = .ok (.getfield 42, 3) := by decide +kernel
theorem dX2_letter_51 : decode cX2_letter 51 = .ok (.iconst 1, 1) := by decide +kernel
theorem dX2_letter_52 : decode cX2_letter 52 = .ok (.iadd, 1) := by decide +kernel
theorem dX2_letter_53 : decode cX2_letter 53 = .ok (.putfield 42, 3) := by decide +kernel
theorem dX2_letter_56 : decode cX2_letter 56 = .ok (.aload_n 0, 1) := by decide +kernel
theorem dX2_letter_57 : decode cX2_letter 57 = .ok (.getfield 42, 3) := by decide +kernel
theorem dX2_letter_60 : decode cX2_letter 60 = .ok (.ireturn, 1) := by decide +kernel
set_option maxRecDepth 20000 in
theorem ggX2_hand_X2_formFault : GoodIn wsX2_hand wsX2_formFault := goodIn_r _ [6, 1, 7, 8, 9, 5, 10, 11, 12, 13, 14, 15, 16, 17, 18, 19, 20, 21, 22, 23, 123, 124, 125, 126, 127, 128, 129, 130, 131, 132, 133, 134] (by decide +kernel) (by decide +kernel)
set_option maxRecDepth 20000 in
theorem gX2_hand_X2_formFault : GoodIn wsX2_hand (wsV RX2 64 RX2 yX2_formFault wsX2_formFault) := goodIn_app (goodIn_of _ (by decide +kernel)) ggX2_hand_X2_formFault
set_option maxRecDepth 20000 in
theorem ggX2_hand_X2_takeStatements : GoodIn wsX2_hand wsX2_takeStatements := goodIn_r _ [27, 28, 29, 1, 30, 31, 32, 33, 34, 35, 36, 37, 38, 39, 40, 41, 42, 43, 44, 45, 46, 47, 48, 49, 50, 51, 52, 53, 5, 54, 7, 8, 9, 10, 11, 12, 13, 14, 21, 22, 23, 55, 56, 57, 58, 59, 60, 61, 62, 63, 64, 65, 66, 67, 68, 69, 70, 71, 72, 73, 74, 75, 76, 77, 78, 79, 80, 81, 82, 83, 84, 85, 86, 87, 88, 89, 90, 91, 92, 93, 94, 95, 96, 97, 98, 99, 100, 101, 102, 103, 104, 105, 106, 107, 108, 109, 110, 111, 112, 113, 114, 115, 116, 117, 118, 119, 120, 121, 122, 15, 16, 17, 123, 124, 125, 126, 127, 128, 129, 130, 131, 132, 133, 134, 135, 136, 137, 138, 139, 140, 141, 142, 143, 144, 145, 146] (by decide +kernel) (by decide +kernel)
set_option maxRecDepth 20000 in
theorem gX2_hand_X2_takeStatements : GoodIn wsX2_hand (wsV RX2 68 RX2 yX2_takeStatements wsX2_takeStatements) := goodIn_app (goodIn_of _ (by decide +kernel)) ggX2_hand_X2_takeStatements
theorem dX2_hand_0 : decode cX2_hand 0 = .ok (.aload_n 0, 1) := by decide +kernel
theorem dX2_hand_1 : decode cX2_hand 1 = .ok (.invokevirtual 64, 3) := by decide +kernel
theorem dX2_hand_4 : decode cX2_hand 4 = .ok (.istore_n 1, 1) := by decide +kernel
theorem dX2_hand_5 : decode cX2_hand 5 = .ok (.iload_n 1, 1) := by decide +kernel
theorem dX2_hand_6 : decode cX2_hand 6 = .ok (.ifCond .lt 11, 3) := by decide +kernel
theorem dX2_hand_9 : decode cX2_hand 9 = .ok (.sipush (-1000), 3) := by decide +kernel
theorem dX2_hand_12 : decode cX2_hand 12 = .ok (.iload_n 1, 1) := by decide +kernel
theorem dX2_hand_13 : decode cX2_hand 13 = .ok (.isub, 1) := by decide +kernel
theorem dX2_hand_14 : decode cX2_hand 14 = .ok (.goto 7, 3) := by decide +kernel
theorem dX2_hand_17 : decode cX2_hand 17 = .ok (.aload_n 0, 1) := by decide +kernel
theorem dX2_hand_18 : decode cX2_hand 18 = .ok (.invokevirtual 68, 3) := by decide +kernel
theorem dX2_hand_21 : decode cX2_hand 21 = .ok (.istore_n 2, 1) := by decide +kernel
theorem dX2_hand_22 : decode cX2_hand 22 = .ok (.aload_n 0, 1) := by decide +kernel
theorem dX2_hand_23 : decode cX2_hand 23 = .ok (.iconst 0, 1) := by decide +kernel
theorem dX2_hand_24 : decode cX2_hand 24 = .ok (.putfield 42, 3) := by decide +kernel
theorem dX2_hand_27 : decode cX2_hand 27 = .ok (.iload_n 2, 1) := by decide +kernel
theorem dX2_hand_28 : decode cX2_hand 28 = .ok (.ireturn, 1) := by decide +kernel
set_option maxRecDepth 20000 in
theorem ggX2_part_X2_refuse : GoodIn wsX2_part wsX2_refuse := goodIn_r _ [9, 10, 11, 12, 8, 13, 14, 15, 16, 33, 34, 35, 36, 37, 38, 39, 40, 41, 42, 43, 44] (by decide +kernel) (by decide +kernel)
set_option maxRecDepth 20000 in
theorem gX2_part_X2_refuse : GoodIn wsX2_part (wsV RX2 56 RX2 yX2_refuse wsX2_refuse) := goodIn_app (goodIn_of _ (by decide +kernel)) ggX2_part_X2_refuse
set_option maxRecDepth 20000 in
theorem ggX2_part_X2_at : GoodIn wsX2_part wsX2_at := goodIn_r _ [13] (by decide +kernel) (by decide +kernel)
set_option maxRecDepth 20000 in
theorem gX2_part_X2_at : GoodIn wsX2_part (va_wsS RX2 77 yX2_at wsX2_at) := goodIn_app (goodIn_of _ (by decide +kernel)) ggX2_part_X2_at
set_option maxRecDepth 20000 in
theorem ggX2_part_X0_thickNow : GoodIn wsX2_part wsX0_thickNow := goodIn_r _ [21, 22, 23, 24, 25, 26, 12, 8, 13, 27, 28, 29, 30, 31, 32, 45, 46, 47, 48, 49, 50, 51, 52, 53, 54, 55, 56] (by decide +kernel) (by decide +kernel)
set_option maxRecDepth 20000 in
theorem gX2_part_X0_thickNow : GoodIn wsX2_part (wsV RX2 84 RX0 yX0_thickNow wsX0_thickNow) := goodIn_app (goodIn_of _ (by decide +kernel)) ggX2_part_X0_thickNow
theorem dX2_part_0 : decode cX2_part 0 = .ok (.iload_n 1, 1) := by decide +kernel
theorem dX2_part_1 : decode cX2_part 1 = .ok (.ifCond .lt 14, 3) := by decide +kernel
theorem dX2_part_4 : decode cX2_part 4 = .ok (.iload_n 1, 1) := by decide +kernel
theorem dX2_part_5 : decode cX2_part 5 = .ok (.aload_n 0, 1) := by decide +kernel
theorem dX2_part_6 : decode cX2_part 6 = .ok (.getfield 10, 3) := by decide +kernel
theorem dX2_part_9 : decode cX2_part 9 = .ok (.getfield 71, 3) := by decide +kernel
theorem dX2_part_12 : decode cX2_part 12 = .ok (.if_icmp .lt 9, 3) := by decide +kernel
theorem dX2_part_15 : decode cX2_part 15 = .ok (.aload_n 0, 1) := by decide +kernel
theorem dX2_part_16 : decode cX2_part 16 = .ok (.iconst (-1), 1) := by decide +kernel
theorem dX2_part_17 : decode cX2_part 17 = .ok (.invokevirtual 56, 3) := by decide +kernel
theorem dX2_part_20 : decode cX2_part 20 = .ok (.ireturn, 1) := by decide +kernel
theorem dX2_part_21 : decode cX2_part 21 = .ok (.iload_n 2, 1) := by decide +kernel
theorem dX2_part_22 : decode cX2_part 22 = .ok (.tableswitch 59 0 2 #[26, 38, 50], 26) := by decide +kernel
theorem dX2_part_48 : decode cX2_part 48 = .ok (.aload_n 0, 1) := by decide +kernel
theorem dX2_part_49 : decode cX2_part 49 = .ok (.getfield 10, 3) := by decide +kernel
theorem dX2_part_52 : decode cX2_part 52 = .ok (.getfield 74, 3) := by decide +kernel
theorem dX2_part_55 : decode cX2_part 55 = .ok (.iload_n 1, 1) := by decide +kernel
theorem dX2_part_56 : decode cX2_part 56 = .ok (.invokestatic 77, 3) := by decide +kernel
theorem dX2_part_59 : decode cX2_part 59 = .ok (.ireturn, 1) := by decide +kernel
theorem dX2_part_60 : decode cX2_part 60 = .ok (.aload_n 0, 1) := by decide +kernel
theorem dX2_part_61 : decode cX2_part 61 = .ok (.getfield 10, 3) := by decide +kernel
theorem dX2_part_64 : decode cX2_part 64 = .ok (.getfield 81, 3) := by decide +kernel
theorem dX2_part_67 : decode cX2_part 67 = .ok (.iload_n 1, 1) := by decide +kernel
theorem dX2_part_68 : decode cX2_part 68 = .ok (.invokestatic 77, 3) := by decide +kernel
theorem dX2_part_71 : decode cX2_part 71 = .ok (.ireturn, 1) := by decide +kernel
theorem dX2_part_72 : decode cX2_part 72 = .ok (.aload_n 0, 1) := by decide +kernel
theorem dX2_part_73 : decode cX2_part 73 = .ok (.getfield 10, 3) := by decide +kernel
theorem dX2_part_76 : decode cX2_part 76 = .ok (.iload_n 1, 1) := by decide +kernel
theorem dX2_part_77 : decode cX2_part 77 = .ok (.invokevirtual 84, 3) := by decide +kernel
theorem dX2_part_80 : decode cX2_part 80 = .ok (.ireturn, 1) := by decide +kernel
theorem dX2_part_81 : decode cX2_part 81 = .ok (.aload_n 0, 1) := by decide +kernel
theorem dX2_part_82 : decode cX2_part 82 = .ok (.bipush (-2), 2) := by decide +kernel
theorem dX2_part_84 : decode cX2_part 84 = .ok (.invokevirtual 56, 3) := by decide +kernel
theorem dX2_part_87 : decode cX2_part 87 = .ok (.ireturn, 1) := by decide +kernel
set_option maxRecDepth 20000 in
theorem ggX2_set_X2_refuse : GoodIn wsX2_set wsX2_refuse := goodIn_r _ [8, 9, 10, 11, 7, 12, 13, 14, 15, 30, 31, 32, 33, 34, 35, 36, 37, 38, 39, 40, 41] (by decide +kernel) (by decide +kernel)
set_option maxRecDepth 20000 in
theorem gX2_set_X2_refuse : GoodIn wsX2_set (wsV RX2 56 RX2 yX2_refuse wsX2_refuse) := goodIn_app (goodIn_of _ (by decide +kernel)) ggX2_set_X2_refuse
set_option maxRecDepth 20000 in
theorem ggX2_set_X2_at : GoodIn wsX2_set wsX2_at := goodIn_r _ [12] (by decide +kernel) (by decide +kernel)
set_option maxRecDepth 20000 in
theorem gX2_set_X2_at : GoodIn wsX2_set (va_wsS RX2 77 yX2_at wsX2_at) := goodIn_app (goodIn_of _ (by decide +kernel)) ggX2_set_X2_at
set_option maxRecDepth 20000 in
theorem ggX2_set_X0_setting : GoodIn wsX2_set wsX0_setting := goodIn_r _ [20, 21, 22, 23, 24, 25, 42, 43, 44, 45, 46, 47, 48, 49, 50, 51, 52, 53] (by decide +kernel) (by decide +kernel)
set_option maxRecDepth 20000 in
theorem gX2_set_X0_setting : GoodIn wsX2_set (wsV RX2 93 RX0 yX0_setting wsX0_setting) := goodIn_app (goodIn_of _ (by decide +kernel)) ggX2_set_X0_setting
set_option maxRecDepth 20000 in
theorem ggX2_set_X0_change : GoodIn wsX2_set wsX0_change := goodIn_r _ [29, 21, 22, 23, 24, 25, 42, 43, 44, 45, 46, 47, 48, 49, 50, 51, 52, 53] (by decide +kernel) (by decide +kernel)
set_option maxRecDepth 20000 in
theorem gX2_set_X0_change : GoodIn wsX2_set (wsV RX2 96 RX0 yX0_change wsX0_change) := goodIn_app (goodIn_of _ (by decide +kernel)) ggX2_set_X0_change
theorem dX2_set_0 : decode cX2_set 0 = .ok (.iload_n 1, 1) := by decide +kernel
theorem dX2_set_1 : decode cX2_set 1 = .ok (.ifCond .lt 8, 3) := by decide +kernel
theorem dX2_set_4 : decode cX2_set 4 = .ok (.iload_n 1, 1) := by decide +kernel
theorem dX2_set_5 : decode cX2_set 5 = .ok (.iconst 4, 1) := by decide +kernel
theorem dX2_set_6 : decode cX2_set 6 = .ok (.if_icmp .le 10, 3) := by decide +kernel
theorem dX2_set_9 : decode cX2_set 9 = .ok (.aload_n 0, 1) := by decide +kernel
theorem dX2_set_10 : decode cX2_set 10 = .ok (.bipush (-2), 2) := by decide +kernel
theorem dX2_set_12 : decode cX2_set 12 = .ok (.invokevirtual 56, 3) := by decide +kernel
theorem dX2_set_15 : decode cX2_set 15 = .ok (.ireturn, 1) := by decide +kernel
theorem dX2_set_16 : decode cX2_set 16 = .ok (.iload_n 2, 1) := by decide +kernel
theorem dX2_set_17 : decode cX2_set 17 = .ok (.getstatic 87, 3) := by decide +kernel
theorem dX2_set_20 : decode cX2_set 20 = .ok (.iload_n 1, 1) := by decide +kernel
theorem dX2_set_21 : decode cX2_set 21 = .ok (.invokestatic 77, 3) := by decide +kernel
theorem dX2_set_24 : decode cX2_set 24 = .ok (.if_icmp .ge 10, 3) := by decide +kernel
theorem dX2_set_27 : decode cX2_set 27 = .ok (.aload_n 0, 1) := by decide +kernel
theorem dX2_set_28 : decode cX2_set 28 = .ok (.bipush (-4), 2) := by decide +kernel
theorem dX2_set_30 : decode cX2_set 30 = .ok (.invokevirtual 56, 3) := by decide +kernel
theorem dX2_set_33 : decode cX2_set 33 = .ok (.ireturn, 1) := by decide +kernel
theorem dX2_set_34 : decode cX2_set 34 = .ok (.iload_n 2, 1) := by decide +kernel
theorem dX2_set_35 : decode cX2_set 35 = .ok (.getstatic 90, 3) := by decide +kernel
theorem dX2_set_38 : decode cX2_set 38 = .ok (.iload_n 1, 1) := by decide +kernel
theorem dX2_set_39 : decode cX2_set 39 = .ok (.invokestatic 77, 3) := by decide +kernel
theorem dX2_set_42 : decode cX2_set 42 = .ok (.if_icmp .le 10, 3) := by decide +kernel
theorem dX2_set_45 : decode cX2_set 45 = .ok (.aload_n 0, 1) := by decide +kernel
theorem dX2_set_46 : decode cX2_set 46 = .ok (.bipush (-6), 2) := by decide +kernel
theorem dX2_set_48 : decode cX2_set 48 = .ok (.invokevirtual 56, 3) := by decide +kernel
theorem dX2_set_51 : decode cX2_set 51 = .ok (.ireturn, 1) := by decide +kernel
theorem dX2_set_52 : decode cX2_set 52 = .ok (.aload_n 0, 1) := by decide +kernel
theorem dX2_set_53 : decode cX2_set 53 = .ok (.getfield 10, 3) := by decide +kernel
theorem dX2_set_56 : decode cX2_set 56 = .ok (.iload_n 1, 1) := by decide +kernel
theorem dX2_set_57 : decode cX2_set 57 = .ok (.invokevirtual 93, 3) := by decide +kernel
theorem dX2_set_60 : decode cX2_set 60 = .ok (.istore_n 3, 1) := by decide +kernel
theorem dX2_set_61 : decode cX2_set 61 = .ok (.aload_n 0, 1) := by decide +kernel
theorem dX2_set_62 : decode cX2_set 62 = .ok (.getfield 10, 3) := by decide +kernel
theorem dX2_set_65 : decode cX2_set 65 = .ok (.iload_n 1, 1) := by decide +kernel
theorem dX2_set_66 : decode cX2_set 66 = .ok (.iload_n 2, 1) := by decide +kernel
theorem dX2_set_67 : decode cX2_set 67 = .ok (.invokevirtual 96, 3) := by decide +kernel
theorem dX2_set_70 : decode cX2_set 70 = .ok (.iload_n 3, 1) := by decide +kernel
theorem dX2_set_71 : decode cX2_set 71 = .ok (.ireturn, 1) := by decide +kernel
theorem dX2_back_0 : decode cX2_back 0 = .ok (.aload_n 0, 1) := by decide +kernel
theorem dX2_back_1 : decode cX2_back 1 = .ok (.getfield 10, 3) := by decide +kernel
theorem dX2_back_4 : decode cX2_back 4 = .ok (.getfield 100, 3) := by decide +kernel
theorem dX2_back_7 : decode cX2_back 7 = .ok (.istore_n 1, 1) := by decide +kernel
theorem dX2_back_8 : decode cX2_back 8 = .ok (.aload_n 0, 1) := by decide +kernel
theorem dX2_back_9 : decode cX2_back 9 = .ok (.getfield 10, 3) := by decide +kernel
theorem dX2_back_12 : decode cX2_back 12 = .ok (.iconst 0, 1) := by decide +kernel
theorem dX2_back_13 : decode cX2_back 13 = .ok (.putfield 100, 3) := by decide +kernel
theorem dX2_back_16 : decode cX2_back 16 = .ok (.iload_n 1, 1) := by decide +kernel
theorem dX2_back_17 : decode cX2_back 17 = .ok (.ireturn, 1) := by decide +kernel
set_option maxRecDepth 20000 in
theorem ggX2_kind_X2_isTry : GoodIn wsX2_kind wsX2_isTry := goodIn_r _ [9] (by decide +kernel) (by decide +kernel)
set_option maxRecDepth 20000 in
theorem gX2_kind_X2_isTry : GoodIn wsX2_kind (va_wsS RX2 103 yX2_isTry wsX2_isTry) := goodIn_app (goodIn_of _ (by decide +kernel)) ggX2_kind_X2_isTry
set_option maxRecDepth 20000 in
theorem ggX2_kind_X2_refuse : GoodIn wsX2_kind wsX2_refuse := goodIn_r _ [13, 14, 15, 16, 8, 17, 18, 19, 20, 24, 25, 26, 27, 28, 29, 30, 31, 32, 33, 34, 35] (by decide +kernel) (by decide +kernel)
set_option maxRecDepth 20000 in
theorem gX2_kind_X2_refuse : GoodIn wsX2_kind (wsV RX2 56 RX2 yX2_refuse wsX2_refuse) := goodIn_app (goodIn_of _ (by decide +kernel)) ggX2_kind_X2_refuse
set_option maxRecDepth 20000 in
theorem ggX2_kind_X2_allowance : GoodIn wsX2_kind wsX2_allowance := goodIn_r _ [23] (by decide +kernel) (by decide +kernel)
set_option maxRecDepth 20000 in
theorem gX2_kind_X2_allowance : GoodIn wsX2_kind (va_wsS RX2 110 yX2_allowance wsX2_allowance) := goodIn_app (goodIn_of _ (by decide +kernel)) ggX2_kind_X2_allowance
set_option maxRecDepth 20000 in
theorem ggX2_kind_X2_at : GoodIn wsX2_kind wsX2_at := goodIn_r _ [17] (by decide +kernel) (by decide +kernel)
set_option maxRecDepth 20000 in
theorem gX2_kind_X2_at : GoodIn wsX2_kind (va_wsS RX2 77 yX2_at wsX2_at) := goodIn_app (goodIn_of _ (by decide +kernel)) ggX2_kind_X2_at
theorem dX2_kind_0 : decode cX2_kind 0 = .ok (.iload_n 1, 1) := by decide +kernel
theorem dX2_kind_1 : decode cX2_kind 1 = .ok (.invokestatic 103, 3) := by decide +kernel
theorem dX2_kind_4 : decode cX2_kind 4 = .ok (.ifCond .ne 10, 3) := by decide +kernel
theorem dX2_kind_7 : decode cX2_kind 7 = .ok (.aload_n 0, 1) := by decide +kernel
theorem dX2_kind_8 : decode cX2_kind 8 = .ok (.bipush (-2), 2) := by decide +kernel
theorem dX2_kind_10 : decode cX2_kind 10 = .ok (.invokevirtual 56, 3) := by decide +kernel
theorem dX2_kind_13 : decode cX2_kind 13 = .ok (.ireturn, 1) := by decide +kernel
theorem dX2_kind_14 : decode cX2_kind 14 = .ok (.iload_n 2, 1) := by decide +kernel
theorem dX2_kind_15 : decode cX2_kind 15 = .ok (.tableswitch 65 0 3 #[29, 41, 49, 57], 29) := by decide +kernel
theorem dX2_kind_44 : decode cX2_kind 44 = .ok (.iload_n 1, 1) := by decide +kernel
theorem dX2_kind_45 : decode cX2_kind 45 = .ok (.aload_n 0, 1) := by decide +kernel
theorem dX2_kind_46 : decode cX2_kind 46 = .ok (.getfield 10, 3) := by decide +kernel
theorem dX2_kind_49 : decode cX2_kind 49 = .ok (.getfield 107, 3) := by decide +kernel
theorem dX2_kind_52 : decode cX2_kind 52 = .ok (.invokestatic 110, 3) := by decide +kernel
theorem dX2_kind_55 : decode cX2_kind 55 = .ok (.ireturn, 1) := by decide +kernel
theorem dX2_kind_56 : decode cX2_kind 56 = .ok (.getstatic 114, 3) := by decide +kernel
theorem dX2_kind_59 : decode cX2_kind 59 = .ok (.iload_n 1, 1) := by decide +kernel
theorem dX2_kind_60 : decode cX2_kind 60 = .ok (.invokestatic 77, 3) := by decide +kernel
theorem dX2_kind_63 : decode cX2_kind 63 = .ok (.ireturn, 1) := by decide +kernel
theorem dX2_kind_64 : decode cX2_kind 64 = .ok (.getstatic 117, 3) := by decide +kernel
theorem dX2_kind_67 : decode cX2_kind 67 = .ok (.iload_n 1, 1) := by decide +kernel
theorem dX2_kind_68 : decode cX2_kind 68 = .ok (.invokestatic 77, 3) := by decide +kernel
theorem dX2_kind_71 : decode cX2_kind 71 = .ok (.ireturn, 1) := by decide +kernel
theorem dX2_kind_72 : decode cX2_kind 72 = .ok (.getstatic 120, 3) := by decide +kernel
theorem dX2_kind_75 : decode cX2_kind 75 = .ok (.iload_n 1, 1) := by decide +kernel
theorem dX2_kind_76 : decode cX2_kind 76 = .ok (.invokestatic 77, 3) := by decide +kernel
theorem dX2_kind_79 : decode cX2_kind 79 = .ok (.ireturn, 1) := by decide +kernel
theorem dX2_kind_80 : decode cX2_kind 80 = .ok (.aload_n 0, 1) := by decide +kernel
theorem dX2_kind_81 : decode cX2_kind 81 = .ok (.bipush (-2), 2) := by decide +kernel
theorem dX2_kind_83 : decode cX2_kind 83 = .ok (.invokevirtual 56, 3) := by decide +kernel
theorem dX2_kind_86 : decode cX2_kind 86 = .ok (.ireturn, 1) := by decide +kernel
set_option maxRecDepth 20000 in
theorem ggX2_tries_X2_tryRefusal : GoodIn wsX2_tries wsX2_tryRefusal := goodIn_r _ [7, 1, 8, 9, 6, 10, 11, 12, 13, 14, 15, 16, 17, 18, 19, 20, 21, 22, 23, 24, 25, 26, 27, 28, 71, 72, 73, 74, 75, 76, 77, 78, 79, 80, 81, 82, 83, 84, 85, 86, 87, 88, 89, 90, 91, 92, 93, 94] (by decide +kernel) (by decide +kernel)
set_option maxRecDepth 20000 in
theorem gX2_tries_X2_tryRefusal : GoodIn wsX2_tries (wsV RX2 123 RX2 yX2_tryRefusal wsX2_tryRefusal) := goodIn_app (goodIn_of _ (by decide +kernel)) ggX2_tries_X2_tryRefusal
set_option maxRecDepth 20000 in
theorem ggX2_tries_X2_at : GoodIn wsX2_tries wsX2_at := goodIn_r _ [18] (by decide +kernel) (by decide +kernel)
set_option maxRecDepth 20000 in
theorem gX2_tries_X2_at : GoodIn wsX2_tries (va_wsS RX2 77 yX2_at wsX2_at) := goodIn_app (goodIn_of _ (by decide +kernel)) ggX2_tries_X2_at
set_option maxRecDepth 20000 in
theorem ggX2_tries_X0_hasMinutes : GoodIn wsX2_tries wsX0_hasMinutes := goodIn_r _ [32, 33, 83, 84, 85, 86, 87, 88, 89, 90, 91, 92, 93, 94] (by decide +kernel) (by decide +kernel)
set_option maxRecDepth 20000 in
theorem gX2_tries_X0_hasMinutes : GoodIn wsX2_tries (wsV RX2 126 RX0 yX0_hasMinutes wsX0_hasMinutes) := goodIn_app (goodIn_of _ (by decide +kernel)) ggX2_tries_X0_hasMinutes
set_option maxRecDepth 20000 in
theorem ggX2_tries_X2_refuse : GoodIn wsX2_tries wsX2_refuse := goodIn_r _ [14, 15, 16, 17, 6, 18, 19, 20, 21, 71, 72, 73, 74, 75, 76, 77, 78, 79, 80, 81, 82] (by decide +kernel) (by decide +kernel)
set_option maxRecDepth 20000 in
theorem gX2_tries_X2_refuse : GoodIn wsX2_tries (wsV RX2 56 RX2 yX2_refuse wsX2_refuse) := goodIn_app (goodIn_of _ (by decide +kernel)) ggX2_tries_X2_refuse
set_option maxRecDepth 20000 in
theorem ggX2_tries_X0_attempt : GoodIn wsX2_tries wsX0_attempt := goodIn_r _ [37, 27, 38, 39, 40, 25, 41, 42, 43, 44, 45, 46, 47, 48, 23, 24, 26, 28, 17, 6, 18, 49, 50, 51, 52, 53, 54, 55, 56, 57, 58, 59, 60, 61, 62, 63, 64, 65, 66, 67, 68, 69, 33, 70, 83, 84, 85, 86, 87, 88, 89, 90, 91, 92, 93, 94] (by decide +kernel) (by decide +kernel)
set_option maxRecDepth 20000 in
theorem gX2_tries_X0_attempt : GoodIn wsX2_tries (wsV RX2 129 RX0 yX0_attempt wsX0_attempt) := goodIn_app (goodIn_of _ (by decide +kernel)) ggX2_tries_X0_attempt
theorem dX2_tries_0 : decode cX2_tries 0 = .ok (.aload_n 0, 1) := by decide +kernel
theorem dX2_tries_1 : decode cX2_tries 1 = .ok (.iload_n 1, 1) := by decide +kernel
theorem dX2_tries_2 : decode cX2_tries 2 = .ok (.invokevirtual 123, 3) := by decide +kernel
theorem dX2_tries_5 : decode cX2_tries 5 = .ok (.istore_n 2, 1) := by decide +kernel
theorem dX2_tries_6 : decode cX2_tries 6 = .ok (.iload_n 2, 1) := by decide +kernel
theorem dX2_tries_7 : decode cX2_tries 7 = .ok (.ifCond .eq 5, 3) := by decide +kernel
theorem dX2_tries_10 : decode cX2_tries 10 = .ok (.iload_n 2, 1) := by decide +kernel
theorem dX2_tries_11 : decode cX2_tries 11 = .ok (.ireturn, 1) := by decide +kernel
theorem dX2_tries_12 : decode cX2_tries 12 = .ok (.aload_n 0, 1) := by decide +kernel
theorem dX2_tries_13 : decode cX2_tries 13 = .ok (.getfield 10, 3) := by decide +kernel
theorem dX2_tries_16 : decode cX2_tries 16 = .ok (.getstatic 114, 3) := by decide +kernel
theorem dX2_tries_19 : decode cX2_tries 19 = .ok (.iload_n 1, 1) := by decide +kernel
theorem dX2_tries_20 : decode cX2_tries 20 = .ok (.invokestatic 77, 3) := by decide +kernel
theorem dX2_tries_23 : decode cX2_tries 23 = .ok (.invokevirtual 126, 3) := by decide +kernel
theorem dX2_tries_26 : decode cX2_tries 26 = .ok (.ifCond .ne 10, 3) := by decide +kernel
theorem dX2_tries_29 : decode cX2_tries 29 = .ok (.aload_n 0, 1) := by decide +kernel
theorem dX2_tries_30 : decode cX2_tries 30 = .ok (.bipush (-6), 2) := by decide +kernel
theorem dX2_tries_32 : decode cX2_tries 32 = .ok (.invokevirtual 56, 3) := by decide +kernel
theorem dX2_tries_35 : decode cX2_tries 35 = .ok (.ireturn, 1) := by decide +kernel
theorem dX2_tries_36 : decode cX2_tries 36 = .ok (.aload_n 0, 1) := by decide +kernel
theorem dX2_tries_37 : decode cX2_tries 37 = .ok (.getfield 10, 3) := by decide +kernel
theorem dX2_tries_40 : decode cX2_tries 40 = .ok (.iload_n 1, 1) := by decide +kernel
theorem dX2_tries_41 : decode cX2_tries 41 = .ok (.invokevirtual 129, 3) := by decide +kernel
theorem dX2_tries_44 : decode cX2_tries 44 = .ok (.ifCond .eq 7, 3) := by decide +kernel
theorem dX2_tries_47 : decode cX2_tries 47 = .ok (.iconst 1, 1) := by decide +kernel
theorem dX2_tries_48 : decode cX2_tries 48 = .ok (.goto 4, 3) := by decide +kernel
theorem dX2_tries_51 : decode cX2_tries 51 = .ok (.iconst 0, 1) := by decide +kernel
theorem dX2_tries_52 : decode cX2_tries 52 = .ok (.ireturn, 1) := by decide +kernel
set_option maxRecDepth 20000 in
theorem ggX2_pause_X2_refuse : GoodIn wsX2_pause wsX2_refuse := goodIn_r _ [7, 8, 9, 10, 6, 11, 12, 13, 14, 32, 33, 34, 35, 36, 37, 38, 39, 40, 41, 42, 43] (by decide +kernel) (by decide +kernel)
set_option maxRecDepth 20000 in
theorem gX2_pause_X2_refuse : GoodIn wsX2_pause (wsV RX2 56 RX2 yX2_refuse wsX2_refuse) := goodIn_app (goodIn_of _ (by decide +kernel)) ggX2_pause_X2_refuse
set_option maxRecDepth 20000 in
theorem ggX2_pause_X0_hasMinutes : GoodIn wsX2_pause wsX0_hasMinutes := goodIn_r _ [19, 20, 44, 45, 46, 47, 48, 49, 50, 51, 52, 53, 54, 55] (by decide +kernel) (by decide +kernel)
set_option maxRecDepth 20000 in
theorem gX2_pause_X0_hasMinutes : GoodIn wsX2_pause (wsV RX2 126 RX0 yX0_hasMinutes wsX0_hasMinutes) := goodIn_app (goodIn_of _ (by decide +kernel)) ggX2_pause_X0_hasMinutes
set_option maxRecDepth 20000 in
theorem ggX2_pause_X0_rest : GoodIn wsX2_pause wsX0_rest := goodIn_r _ [24, 25, 26, 27, 28, 29, 30, 31, 20, 44, 45, 46, 47, 48, 49, 50, 51, 52, 53, 54, 55] (by decide +kernel) (by decide +kernel)
set_option maxRecDepth 20000 in
theorem gX2_pause_X0_rest : GoodIn wsX2_pause (wsV RX2 132 RX0 yX0_rest wsX0_rest) := goodIn_app (goodIn_of _ (by decide +kernel)) ggX2_pause_X0_rest
theorem dX2_pause_0 : decode cX2_pause 0 = .ok (.iload_n 1, 1) := by decide +kernel
theorem dX2_pause_1 : decode cX2_pause 1 = .ok (.iconst 1, 1) := by decide +kernel
theorem dX2_pause_2 : decode cX2_pause 2 = .ok (.if_icmp .ge 10, 3) := by decide +kernel
theorem dX2_pause_5 : decode cX2_pause 5 = .ok (.aload_n 0, 1) := by decide +kernel
theorem dX2_pause_6 : decode cX2_pause 6 = .ok (.bipush (-4), 2) := by decide +kernel
theorem dX2_pause_8 : decode cX2_pause 8 = .ok (.invokevirtual 56, 3) := by decide +kernel
theorem dX2_pause_11 : decode cX2_pause 11 = .ok (.ireturn, 1) := by decide +kernel
theorem dX2_pause_12 : decode cX2_pause 12 = .ok (.iload_n 1, 1) := by decide +kernel
theorem dX2_pause_13 : decode cX2_pause 13 = .ok (.bipush 60, 2) := by decide +kernel
theorem dX2_pause_15 : decode cX2_pause 15 = .ok (.if_icmp .gt 14, 3) := by decide +kernel
theorem dX2_pause_18 : decode cX2_pause 18 = .ok (.aload_n 0, 1) := by decide +kernel
theorem dX2_pause_19 : decode cX2_pause 19 = .ok (.getfield 10, 3) := by decide +kernel
theorem dX2_pause_22 : decode cX2_pause 22 = .ok (.iload_n 1, 1) := by decide +kernel
theorem dX2_pause_23 : decode cX2_pause 23 = .ok (.invokevirtual 126, 3) := by decide +kernel
theorem dX2_pause_26 : decode cX2_pause 26 = .ok (.ifCond .ne 10, 3) := by decide +kernel
theorem dX2_pause_29 : decode cX2_pause 29 = .ok (.aload_n 0, 1) := by decide +kernel
theorem dX2_pause_30 : decode cX2_pause 30 = .ok (.bipush (-6), 2) := by decide +kernel
theorem dX2_pause_32 : decode cX2_pause 32 = .ok (.invokevirtual 56, 3) := by decide +kernel
theorem dX2_pause_35 : decode cX2_pause 35 = .ok (.ireturn, 1) := by decide +kernel
theorem dX2_pause_36 : decode cX2_pause 36 = .ok (.aload_n 0, 1) := by decide +kernel
theorem dX2_pause_37 : decode cX2_pause 37 = .ok (.getfield 10, 3) := by decide +kernel
theorem dX2_pause_40 : decode cX2_pause 40 = .ok (.iload_n 1, 1) := by decide +kernel
theorem dX2_pause_41 : decode cX2_pause 41 = .ok (.invokevirtual 132, 3) := by decide +kernel
theorem dX2_pause_44 : decode cX2_pause 44 = .ok (.aload_n 0, 1) := by decide +kernel
theorem dX2_pause_45 : decode cX2_pause 45 = .ok (.getfield 10, 3) := by decide +kernel
theorem dX2_pause_48 : decode cX2_pause 48 = .ok (.getfield 136, 3) := by decide +kernel
theorem dX2_pause_51 : decode cX2_pause 51 = .ok (.ireturn, 1) := by decide +kernel
set_option maxRecDepth 20000 in
theorem ggX2_would_X2_tryRefusal : GoodIn wsX2_would wsX2_tryRefusal := goodIn_r _ [6, 1, 7, 8, 5, 9, 10, 11, 12, 13, 14, 15, 16, 17, 18, 19, 20, 21, 22, 23, 24, 25, 26, 27, 55, 56, 57, 58, 59, 60, 61, 62, 63, 64, 65, 66, 67, 68, 69, 70, 71, 72, 73, 74, 75, 76, 77, 78] (by decide +kernel) (by decide +kernel)
set_option maxRecDepth 20000 in
theorem gX2_would_X2_tryRefusal : GoodIn wsX2_would (wsV RX2 123 RX2 yX2_tryRefusal wsX2_tryRefusal) := goodIn_app (goodIn_of _ (by decide +kernel)) ggX2_would_X2_tryRefusal
set_option maxRecDepth 20000 in
theorem ggX2_would_X0_goesOver : GoodIn wsX2_would wsX0_goesOver := goodIn_r _ [31, 32, 26, 33, 34, 35, 36, 37, 38, 22, 23, 24, 25, 27, 16, 5, 17, 39, 40, 41, 42, 43, 44, 45, 46, 47, 48, 49, 50, 51, 52, 53, 54, 67, 68, 69, 70, 71, 72, 73, 74, 75, 76, 77, 78] (by decide +kernel) (by decide +kernel)
set_option maxRecDepth 20000 in
theorem gX2_would_X0_goesOver : GoodIn wsX2_would (wsV RX2 139 RX0 yX0_goesOver wsX0_goesOver) := goodIn_app (goodIn_of _ (by decide +kernel)) ggX2_would_X0_goesOver
theorem dX2_would_0 : decode cX2_would 0 = .ok (.aload_n 0, 1) := by decide +kernel
theorem dX2_would_1 : decode cX2_would 1 = .ok (.iload_n 1, 1) := by decide +kernel
theorem dX2_would_2 : decode cX2_would 2 = .ok (.invokevirtual 123, 3) := by decide +kernel
theorem dX2_would_5 : decode cX2_would 5 = .ok (.istore_n 2, 1) := by decide +kernel
theorem dX2_would_6 : decode cX2_would 6 = .ok (.iload_n 2, 1) := by decide +kernel
theorem dX2_would_7 : decode cX2_would 7 = .ok (.ifCond .eq 5, 3) := by decide +kernel
theorem dX2_would_10 : decode cX2_would 10 = .ok (.iload_n 2, 1) := by decide +kernel
theorem dX2_would_11 : decode cX2_would 11 = .ok (.ireturn, 1) := by decide +kernel
theorem dX2_would_12 : decode cX2_would 12 = .ok (.aload_n 0, 1) := by decide +kernel
theorem dX2_would_13 : decode cX2_would 13 = .ok (.getfield 10, 3) := by decide +kernel
theorem dX2_would_16 : decode cX2_would 16 = .ok (.iload_n 1, 1) := by decide +kernel
theorem dX2_would_17 : decode cX2_would 17 = .ok (.invokevirtual 139, 3) := by decide +kernel
theorem dX2_would_20 : decode cX2_would 20 = .ok (.ifCond .eq 7, 3) := by decide +kernel
theorem dX2_would_23 : decode cX2_would 23 = .ok (.iconst 1, 1) := by decide +kernel
theorem dX2_would_24 : decode cX2_would 24 = .ok (.goto 4, 3) := by decide +kernel
theorem dX2_would_27 : decode cX2_would 27 = .ok (.iconst 0, 1) := by decide +kernel
theorem dX2_would_28 : decode cX2_would 28 = .ok (.ireturn, 1) := by decide +kernel
set_option maxRecDepth 20000 in
theorem ggX2_holds_X0_isOff : GoodIn wsX2_holds wsX0_isOff := goodIn_r _ [8, 9, 10, 41, 42, 43, 44, 45, 46, 47, 48, 49, 50, 51, 52] (by decide +kernel) (by decide +kernel)
set_option maxRecDepth 20000 in
theorem gX2_holds_X0_isOff : GoodIn wsX2_holds (wsV RX2 142 RX0 yX0_isOff wsX0_isOff) := goodIn_app (goodIn_of _ (by decide +kernel)) ggX2_holds_X0_isOff
set_option maxRecDepth 20000 in
theorem ggX2_holds_X0_thickNow : GoodIn wsX2_holds wsX0_thickNow := goodIn_r _ [14, 15, 16, 17, 18, 19, 20, 21, 22, 23, 24, 25, 26, 27, 28, 41, 42, 43, 44, 45, 46, 47, 48, 49, 50, 51, 52] (by decide +kernel) (by decide +kernel)
set_option maxRecDepth 20000 in
theorem gX2_holds_X0_thickNow : GoodIn wsX2_holds (wsV RX2 84 RX0 yX0_thickNow wsX0_thickNow) := goodIn_app (goodIn_of _ (by decide +kernel)) ggX2_holds_X0_thickNow
theorem dX2_holds_0 : decode cX2_holds 0 = .ok (.aload_n 0, 1) := by decide +kernel
theorem dX2_holds_1 : decode cX2_holds 1 = .ok (.getfield 10, 3) := by decide +kernel
theorem dX2_holds_4 : decode cX2_holds 4 = .ok (.invokevirtual 142, 3) := by decide +kernel
theorem dX2_holds_7 : decode cX2_holds 7 = .ok (.ifCond .eq 9, 3) := by decide +kernel
theorem dX2_holds_10 : decode cX2_holds 10 = .ok (.sipush (-9999), 3) := by decide +kernel
theorem dX2_holds_13 : decode cX2_holds 13 = .ok (.goto 25, 3) := by decide +kernel
theorem dX2_holds_16 : decode cX2_holds 16 = .ok (.aload_n 0, 1) := by decide +kernel
theorem dX2_holds_17 : decode cX2_holds 17 = .ok (.getfield 10, 3) := by decide +kernel
theorem dX2_holds_20 : decode cX2_holds 20 = .ok (.aload_n 0, 1) := by decide +kernel
theorem dX2_holds_21 : decode cX2_holds 21 = .ok (.getfield 10, 3) := by decide +kernel
theorem dX2_holds_24 : decode cX2_holds 24 = .ok (.getfield 100, 3) := by decide +kernel
theorem dX2_holds_27 : decode cX2_holds 27 = .ok (.invokevirtual 84, 3) := by decide +kernel
theorem dX2_holds_30 : decode cX2_holds 30 = .ok (.aload_n 0, 1) := by decide +kernel
theorem dX2_holds_31 : decode cX2_holds 31 = .ok (.getfield 10, 3) := by decide +kernel
theorem dX2_holds_34 : decode cX2_holds 34 = .ok (.getfield 146, 3) := by decide +kernel
theorem dX2_holds_37 : decode cX2_holds 37 = .ok (.isub, 1) := by decide +kernel
theorem dX2_holds_38 : decode cX2_holds 38 = .ok (.ireturn, 1) := by decide +kernel
set_option maxRecDepth 20000 in
theorem ggX2_goes_X2_tryRefusal : GoodIn wsX2_goes wsX2_tryRefusal := goodIn_r _ [5, 6, 7, 8, 4, 9, 10, 11, 12, 13, 14, 15, 16, 17, 18, 19, 20, 21, 22, 23, 24, 25, 26, 27, 75, 76, 77, 78, 79, 80, 81, 82, 83, 84, 85, 86, 87, 88, 89, 90, 91, 92, 93, 94, 95, 96, 97, 98] (by decide +kernel) (by decide +kernel)
set_option maxRecDepth 20000 in
theorem gX2_goes_X2_tryRefusal : GoodIn wsX2_goes (wsV RX2 123 RX2 yX2_tryRefusal wsX2_tryRefusal) := goodIn_app (goodIn_of _ (by decide +kernel)) ggX2_goes_X2_tryRefusal
set_option maxRecDepth 20000 in
theorem ggX2_goes_X2_failuresAhead : GoodIn wsX2_goes wsX2_failuresAhead := goodIn_r _ [31, 32, 6, 33, 34, 35, 24, 36, 37, 38, 39, 40, 41, 42, 27, 43, 44, 26, 45, 46, 47, 48, 49, 50, 51, 52, 53, 54, 55, 22, 23, 25, 16, 4, 17, 56, 57, 58, 59, 60, 61, 62, 63, 64, 65, 66, 67, 68, 69, 70, 71, 72, 73, 74, 75, 76, 77, 78, 79, 80, 81, 82, 83, 84, 85, 86, 87, 88, 89, 90, 91, 92, 93, 94, 95, 96, 97, 98] (by decide +kernel) (by decide +kernel)
set_option maxRecDepth 20000 in
theorem gX2_goes_X2_failuresAhead : GoodIn wsX2_goes (wsV RX2 149 RX2 yX2_failuresAhead wsX2_failuresAhead) := goodIn_app (goodIn_of _ (by decide +kernel)) ggX2_goes_X2_failuresAhead
theorem dX2_goes_0 : decode cX2_goes 0 = .ok (.aload_n 0, 1) := by decide +kernel
theorem dX2_goes_1 : decode cX2_goes 1 = .ok (.iload_n 1, 1) := by decide +kernel
theorem dX2_goes_2 : decode cX2_goes 2 = .ok (.invokevirtual 123, 3) := by decide +kernel
theorem dX2_goes_5 : decode cX2_goes 5 = .ok (.istore_n 2, 1) := by decide +kernel
theorem dX2_goes_6 : decode cX2_goes 6 = .ok (.iload_n 2, 1) := by decide +kernel
theorem dX2_goes_7 : decode cX2_goes 7 = .ok (.ifCond .eq 7, 3) := by decide +kernel
theorem dX2_goes_10 : decode cX2_goes 10 = .ok (.iload_n 2, 1) := by decide +kernel
theorem dX2_goes_11 : decode cX2_goes 11 = .ok (.goto 8, 3) := by decide +kernel
theorem dX2_goes_14 : decode cX2_goes 14 = .ok (.aload_n 0, 1) := by decide +kernel
theorem dX2_goes_15 : decode cX2_goes 15 = .ok (.iload_n 1, 1) := by decide +kernel
theorem dX2_goes_16 : decode cX2_goes 16 = .ok (.invokevirtual 149, 3) := by decide +kernel
theorem dX2_goes_19 : decode cX2_goes 19 = .ok (.ireturn, 1) := by decide +kernel
set_option maxRecDepth 20000 in
theorem ggX2_stop_X0_isOff : GoodIn wsX2_stop wsX0_isOff := goodIn_r _ [6, 7, 8, 80, 81, 82, 83, 84, 85, 86, 87, 88, 89, 90, 91] (by decide +kernel) (by decide +kernel)
set_option maxRecDepth 20000 in
theorem gX2_stop_X0_isOff : GoodIn wsX2_stop (wsV RX2 142 RX0 yX0_isOff wsX0_isOff) := goodIn_app (goodIn_of _ (by decide +kernel)) ggX2_stop_X0_isOff
set_option maxRecDepth 20000 in
theorem ggX2_stop_X2_refuse : GoodIn wsX2_stop wsX2_refuse := goodIn_r _ [13, 14, 15, 16, 12, 17, 18, 19, 20, 68, 69, 70, 71, 72, 73, 74, 75, 76, 77, 78, 79] (by decide +kernel) (by decide +kernel)
set_option maxRecDepth 20000 in
theorem gX2_stop_X2_refuse : GoodIn wsX2_stop (wsV RX2 56 RX2 yX2_refuse wsX2_refuse) := goodIn_app (goodIn_of _ (by decide +kernel)) ggX2_stop_X2_refuse
set_option maxRecDepth 20000 in
theorem ggX2_stop_X2_failuresAhead : GoodIn wsX2_stop wsX2_failuresAhead := goodIn_r _ [24, 25, 1, 26, 27, 28, 5, 29, 30, 31, 32, 33, 34, 35, 8, 36, 37, 7, 38, 39, 40, 41, 42, 43, 44, 45, 46, 47, 48, 3, 4, 6, 16, 12, 17, 49, 50, 51, 52, 53, 54, 55, 56, 57, 58, 59, 60, 61, 62, 63, 64, 65, 66, 67, 68, 69, 70, 71, 72, 73, 74, 75, 76, 77, 78, 79, 80, 81, 82, 83, 84, 85, 86, 87, 88, 89, 90, 91] (by decide +kernel) (by decide +kernel)
set_option maxRecDepth 20000 in
theorem gX2_stop_X2_failuresAhead : GoodIn wsX2_stop (wsV RX2 149 RX2 yX2_failuresAhead wsX2_failuresAhead) := goodIn_app (goodIn_of _ (by decide +kernel)) ggX2_stop_X2_failuresAhead
theorem dX2_stop_0 : decode cX2_stop 0 = .ok (.aload_n 0, 1) := by decide +kernel
theorem dX2_stop_1 : decode cX2_stop 1 = .ok (.getfield 10, 3) := by decide +kernel
theorem dX2_stop_4 : decode cX2_stop 4 = .ok (.invokevirtual 142, 3) := by decide +kernel
theorem dX2_stop_7 : decode cX2_stop 7 = .ok (.ifCond .eq 10, 3) := by decide +kernel
theorem dX2_stop_10 : decode cX2_stop 10 = .ok (.aload_n 0, 1) := by decide +kernel
theorem dX2_stop_11 : decode cX2_stop 11 = .ok (.bipush (-3), 2) := by decide +kernel
theorem dX2_stop_13 : decode cX2_stop 13 = .ok (.invokevirtual 56, 3) := by decide +kernel
theorem dX2_stop_16 : decode cX2_stop 16 = .ok (.ireturn, 1) := by decide +kernel
theorem dX2_stop_17 : decode cX2_stop 17 = .ok (.bipush (-9), 2) := by decide +kernel
theorem dX2_stop_19 : decode cX2_stop 19 = .ok (.istore_n 1, 1) := by decide +kernel
theorem dX2_stop_20 : decode cX2_stop 20 = .ok (.bipush 13, 2) := by decide +kernel
theorem dX2_stop_22 : decode cX2_stop 22 = .ok (.istore_n 2, 1) := by decide +kernel
theorem dX2_stop_23 : decode cX2_stop 23 = .ok (.iconst 0, 1) := by decide +kernel
theorem dX2_stop_24 : decode cX2_stop 24 = .ok (.istore_n 3, 1) := by decide +kernel
theorem dX2_stop_25 : decode cX2_stop 25 = .ok (.iload_n 3, 1) := by decide +kernel
theorem dX2_stop_26 : decode cX2_stop 26 = .ok (.bipush 6, 2) := by decide +kernel
theorem dX2_stop_28 : decode cX2_stop 28 = .ok (.if_icmp .gt 32, 3) := by decide +kernel
theorem dX2_stop_31 : decode cX2_stop 31 = .ok (.aload_n 0, 1) := by decide +kernel
theorem dX2_stop_32 : decode cX2_stop 32 = .ok (.iload_n 3, 1) := by decide +kernel
theorem dX2_stop_33 : decode cX2_stop 33 = .ok (.invokevirtual 149, 3) := by decide +kernel
theorem dX2_stop_36 : decode cX2_stop 36 = .ok (.istore 4, 2) := by decide +kernel
theorem dX2_stop_38 : decode cX2_stop 38 = .ok (.iload 4, 2) := by decide +kernel
theorem dX2_stop_40 : decode cX2_stop 40 = .ok (.ifCond .lt 14, 3) := by decide +kernel
theorem dX2_stop_43 : decode cX2_stop 43 = .ok (.iload 4, 2) := by decide +kernel
theorem dX2_stop_45 : decode cX2_stop 45 = .ok (.iload_n 2, 1) := by decide +kernel
theorem dX2_stop_46 : decode cX2_stop 46 = .ok (.if_icmp .ge 8, 3) := by decide +kernel
theorem dX2_stop_49 : decode cX2_stop 49 = .ok (.iload_n 3, 1) := by decide +kernel
theorem dX2_stop_50 : decode cX2_stop 50 = .ok (.istore_n 1, 1) := by decide +kernel
theorem dX2_stop_51 : decode cX2_stop 51 = .ok (.iload 4, 2) := by decide +kernel
theorem dX2_stop_53 : decode cX2_stop 53 = .ok (.istore_n 2, 1) := by decide +kernel
theorem dX2_stop_54 : decode cX2_stop 54 = .ok (.iinc 3 1, 3) := by decide +kernel
theorem dX2_stop_57 : decode cX2_stop 57 = .ok (.goto (-32), 3) := by decide +kernel
theorem dX2_stop_60 : decode cX2_stop 60 = .ok (.iload_n 1, 1) := by decide +kernel
theorem dX2_stop_61 : decode cX2_stop 61 = .ok (.ireturn, 1) := by decide +kernel
set_option maxRecDepth 20000 in
theorem ggX2_waited_X2_tryRefusal : GoodIn wsX2_waited wsX2_tryRefusal := goodIn_r _ [7, 2, 8, 9, 6, 10, 11, 12, 13, 14, 15, 16, 17, 18, 19, 20, 21, 22, 23, 24, 25, 26, 27, 28, 72, 73, 74, 75, 76, 77, 78, 79, 80, 81, 82, 83, 84, 85, 86, 87, 88, 89, 90, 91, 92, 93, 94, 95] (by decide +kernel) (by decide +kernel)
set_option maxRecDepth 20000 in
theorem gX2_waited_X2_tryRefusal : GoodIn wsX2_waited (wsV RX2 123 RX2 yX2_tryRefusal wsX2_tryRefusal) := goodIn_app (goodIn_of _ (by decide +kernel)) ggX2_waited_X2_tryRefusal
set_option maxRecDepth 20000 in
theorem ggX2_waited_X0_copyFrom : GoodIn wsX2_waited wsX0_copyFrom := goodIn_r _ [32, 33, 34, 35, 36, 37, 38, 28, 39, 40, 27, 41, 42, 43, 44, 45, 46, 84, 85, 86, 87, 88, 89, 90, 91, 92, 93, 94, 95] (by decide +kernel) (by decide +kernel)
set_option maxRecDepth 20000 in
theorem gX2_waited_X0_copyFrom : GoodIn wsX2_waited (wsV RX2 152 RX0 yX0_copyFrom wsX0_copyFrom) := goodIn_app (goodIn_of _ (by decide +kernel)) ggX2_waited_X0_copyFrom
set_option maxRecDepth 20000 in
theorem ggX2_waited_X0_rest : GoodIn wsX2_waited wsX0_rest := goodIn_r _ [50, 41, 51, 52, 53, 54, 42, 43, 45, 84, 85, 86, 87, 88, 89, 90, 91, 92, 93, 94, 95] (by decide +kernel) (by decide +kernel)
set_option maxRecDepth 20000 in
theorem gX2_waited_X0_rest : GoodIn wsX2_waited (wsV RX2 132 RX0 yX0_rest wsX0_rest) := goodIn_app (goodIn_of _ (by decide +kernel)) ggX2_waited_X0_rest
set_option maxRecDepth 20000 in
theorem ggX2_waited_X0_goesOver : GoodIn wsX2_waited wsX0_goesOver := goodIn_r _ [58, 33, 27, 38, 41, 44, 39, 40, 59, 23, 24, 25, 26, 28, 17, 6, 18, 60, 61, 62, 63, 42, 64, 65, 53, 66, 67, 68, 69, 52, 54, 70, 71, 84, 85, 86, 87, 88, 89, 90, 91, 92, 93, 94, 95] (by decide +kernel) (by decide +kernel)
set_option maxRecDepth 20000 in
theorem gX2_waited_X0_goesOver : GoodIn wsX2_waited (wsV RX2 139 RX0 yX0_goesOver wsX0_goesOver) := goodIn_app (goodIn_of _ (by decide +kernel)) ggX2_waited_X0_goesOver
theorem dX2_waited_0 : decode cX2_waited 0 = .ok (.aload_n 0, 1) := by decide +kernel
theorem dX2_waited_1 : decode cX2_waited 1 = .ok (.iload_n 1, 1) := by decide +kernel
theorem dX2_waited_2 : decode cX2_waited 2 = .ok (.invokevirtual 123, 3) := by decide +kernel
theorem dX2_waited_5 : decode cX2_waited 5 = .ok (.istore_n 2, 1) := by decide +kernel
theorem dX2_waited_6 : decode cX2_waited 6 = .ok (.iload_n 2, 1) := by decide +kernel
theorem dX2_waited_7 : decode cX2_waited 7 = .ok (.ifCond .eq 5, 3) := by decide +kernel
theorem dX2_waited_10 : decode cX2_waited 10 = .ok (.iload_n 2, 1) := by decide +kernel
theorem dX2_waited_11 : decode cX2_waited 11 = .ok (.ireturn, 1) := by decide +kernel
theorem dX2_waited_12 : decode cX2_waited 12 = .ok (.iconst 0, 1) := by decide +kernel
theorem dX2_waited_13 : decode cX2_waited 13 = .ok (.istore_n 3, 1) := by decide +kernel
theorem dX2_waited_14 : decode cX2_waited 14 = .ok (.iload_n 3, 1) := by decide +kernel
theorem dX2_waited_15 : decode cX2_waited 15 = .ok (.bipush 60, 2) := by decide +kernel
theorem dX2_waited_17 : decode cX2_waited 17 = .ok (.if_icmp .gt 41, 3) := by decide +kernel
theorem dX2_waited_20 : decode cX2_waited 20 = .ok (.aload_n 0, 1) := by decide +kernel
theorem dX2_waited_21 : decode cX2_waited 21 = .ok (.getfield 19, 3) := by decide +kernel
theorem dX2_waited_24 : decode cX2_waited 24 = .ok (.aload_n 0, 1) := by decide +kernel
theorem dX2_waited_25 : decode cX2_waited 25 = .ok (.getfield 10, 3) := by decide +kernel
theorem dX2_waited_28 : decode cX2_waited 28 = .ok (.invokevirtual 152, 3) := by decide +kernel
theorem dX2_waited_31 : decode cX2_waited 31 = .ok (.aload_n 0, 1) := by decide +kernel
theorem dX2_waited_32 : decode cX2_waited 32 = .ok (.getfield 19, 3) := by decide +kernel
theorem dX2_waited_35 : decode cX2_waited 35 = .ok (.iload_n 3, 1) := by decide +kernel
theorem dX2_waited_36 : decode cX2_waited 36 = .ok (.invokevirtual 132, 3) := by decide +kernel
theorem dX2_waited_39 : decode cX2_waited 39 = .ok (.aload_n 0, 1) := by decide +kernel
theorem dX2_waited_40 : decode cX2_waited 40 = .ok (.getfield 19, 3) := by decide +kernel
theorem dX2_waited_43 : decode cX2_waited 43 = .ok (.iload_n 1, 1) := by decide +kernel
theorem dX2_waited_44 : decode cX2_waited 44 = .ok (.invokevirtual 139, 3) := by decide +kernel
theorem dX2_waited_47 : decode cX2_waited 47 = .ok (.ifCond .eq 5, 3) := by decide +kernel
theorem dX2_waited_50 : decode cX2_waited 50 = .ok (.iload_n 3, 1) := by decide +kernel
theorem dX2_waited_51 : decode cX2_waited 51 = .ok (.ireturn, 1) := by decide +kernel
theorem dX2_waited_52 : decode cX2_waited 52 = .ok (.iinc 3 1, 3) := by decide +kernel
theorem dX2_waited_55 : decode cX2_waited 55 = .ok (.goto (-41), 3) := by decide +kernel
theorem dX2_waited_58 : decode cX2_waited 58 = .ok (.bipush (-9), 2) := by decide +kernel
theorem dX2_waited_60 : decode cX2_waited 60 = .ok (.ireturn, 1) := by decide +kernel
set_option maxRecDepth 20000 in
theorem ggX2_soonest_X2_isEither : GoodIn wsX2_soonest wsX2_isEither := goodIn_r _ [6] (by decide +kernel) (by decide +kernel)
set_option maxRecDepth 20000 in
theorem gX2_soonest_X2_isEither : GoodIn wsX2_soonest (va_wsS RX2 156 yX2_isEither wsX2_isEither) := goodIn_app (goodIn_of _ (by decide +kernel)) ggX2_soonest_X2_isEither
set_option maxRecDepth 20000 in
theorem ggX2_soonest_X2_refuse : GoodIn wsX2_soonest wsX2_refuse := goodIn_r _ [10, 11, 12, 13, 5, 14, 15, 16, 17, 135, 136, 137, 138, 139, 140, 141, 142, 143, 144, 145, 146] (by decide +kernel) (by decide +kernel)
set_option maxRecDepth 20000 in
theorem gX2_soonest_X2_refuse : GoodIn wsX2_soonest (wsV RX2 56 RX2 yX2_refuse wsX2_refuse) := goodIn_app (goodIn_of _ (by decide +kernel)) ggX2_soonest_X2_refuse
set_option maxRecDepth 20000 in
theorem ggX2_soonest_X1_least : GoodIn wsX2_soonest wsX1_least := goodIn_r _ [22, 23, 24, 25, 26, 27, 28, 29, 30, 31, 32, 33, 34, 35, 36, 21, 37, 38, 39, 40, 41, 42, 43, 44, 45, 46, 47, 48, 49, 50, 51, 52, 53, 54, 55, 56, 57, 58, 59, 60, 61, 62, 63, 64, 65, 13, 5, 14, 16, 17, 66, 67, 68, 69, 70, 71, 72, 73, 74, 75, 76, 77, 78, 79, 80, 81, 82, 83, 84, 85, 86, 87, 88, 89, 90, 91, 92, 93, 94, 95, 96, 97, 98, 99, 100, 101, 102, 103, 104, 105, 106, 107, 108, 109, 12, 110, 111, 112, 113, 114, 147, 148, 149, 150, 151, 152, 153, 154, 155, 156, 157, 158, 159, 160, 161, 162, 163, 164, 165] (by decide +kernel) (by decide +kernel)
set_option maxRecDepth 20000 in
theorem gX2_soonest_X1_least : GoodIn wsX2_soonest (wsV RX2 159 RX1 yX1_least wsX1_least) := goodIn_app (goodIn_of _ (by decide +kernel)) ggX2_soonest_X1_least
set_option maxRecDepth 20000 in
theorem ggX2_soonest_X2_firstMove : GoodIn wsX2_soonest wsX2_firstMove := goodIn_r _ [118, 1, 2, 119, 18, 19, 20, 21, 22, 23, 24, 25, 26, 27, 28, 29, 30, 31, 32, 33, 34, 35, 36, 37, 38, 39, 40, 41, 42, 43, 44, 45, 46, 47, 48, 49, 50, 51, 52, 53, 54, 55, 56, 57, 58, 59, 60, 61, 62, 63, 64, 65, 13, 5, 14, 16, 17, 66, 67, 68, 69, 70, 71, 72, 73, 74, 75, 76, 77, 78, 79, 80, 81, 82, 83, 84, 85, 86, 87, 88, 89, 90, 91, 92, 93, 94, 95, 96, 97, 98, 99, 100, 101, 102, 103, 104, 105, 106, 107, 108, 109, 12, 110, 111, 112, 113, 114, 120, 121, 122, 123, 124, 125, 126, 127, 128, 129, 130, 131, 132, 133, 134, 135, 136, 137, 138, 139, 140, 141, 142, 143, 144, 145, 146, 147, 148, 149, 150, 151, 152, 153, 154, 155, 156, 157, 158, 159, 160, 161, 162, 163, 164, 165] (by decide +kernel) (by decide +kernel)
set_option maxRecDepth 20000 in
theorem gX2_soonest_X2_firstMove : GoodIn wsX2_soonest (wsV RX2 163 RX2 yX2_firstMove wsX2_firstMove) := goodIn_app (goodIn_of _ (by decide +kernel)) ggX2_soonest_X2_firstMove
theorem dX2_soonest_0 : decode cX2_soonest 0 = .ok (.iload_n 1, 1) := by decide +kernel
theorem dX2_soonest_1 : decode cX2_soonest 1 = .ok (.invokestatic 156, 3) := by decide +kernel
theorem dX2_soonest_4 : decode cX2_soonest 4 = .ok (.ifCond .ne 10, 3) := by decide +kernel
theorem dX2_soonest_7 : decode cX2_soonest 7 = .ok (.aload_n 0, 1) := by decide +kernel
theorem dX2_soonest_8 : decode cX2_soonest 8 = .ok (.bipush (-2), 2) := by decide +kernel
theorem dX2_soonest_10 : decode cX2_soonest 10 = .ok (.invokevirtual 56, 3) := by decide +kernel
theorem dX2_soonest_13 : decode cX2_soonest 13 = .ok (.ireturn, 1) := by decide +kernel
theorem dX2_soonest_14 : decode cX2_soonest 14 = .ok (.iload_n 1, 1) := by decide +kernel
theorem dX2_soonest_15 : decode cX2_soonest 15 = .ok (.ifCond .ne 21, 3) := by decide +kernel
theorem dX2_soonest_18 : decode cX2_soonest 18 = .ok (.aload_n 0, 1) := by decide +kernel
theorem dX2_soonest_19 : decode cX2_soonest 19 = .ok (.getfield 25, 3) := by decide +kernel
theorem dX2_soonest_22 : decode cX2_soonest 22 = .ok (.aload_n 0, 1) := by decide +kernel
theorem dX2_soonest_23 : decode cX2_soonest 23 = .ok (.getfield 10, 3) := by decide +kernel
theorem dX2_soonest_26 : decode cX2_soonest 26 = .ok (.iconst 0, 1) := by decide +kernel
theorem dX2_soonest_27 : decode cX2_soonest 27 = .ok (.iconst 0, 1) := by decide +kernel
theorem dX2_soonest_28 : decode cX2_soonest 28 = .ok (.bipush 120, 2) := by decide +kernel
theorem dX2_soonest_30 : decode cX2_soonest 30 = .ok (.invokevirtual 159, 3) := by decide +kernel
theorem dX2_soonest_33 : decode cX2_soonest 33 = .ok (.goto 10, 3) := by decide +kernel
theorem dX2_soonest_36 : decode cX2_soonest 36 = .ok (.aload_n 0, 1) := by decide +kernel
theorem dX2_soonest_37 : decode cX2_soonest 37 = .ok (.iconst 0, 1) := by decide +kernel
theorem dX2_soonest_38 : decode cX2_soonest 38 = .ok (.bipush 120, 2) := by decide +kernel
theorem dX2_soonest_40 : decode cX2_soonest 40 = .ok (.invokevirtual 163, 3) := by decide +kernel
theorem dX2_soonest_43 : decode cX2_soonest 43 = .ok (.ireturn, 1) := by decide +kernel
set_option maxRecDepth 20000 in
theorem ggX2_gentlest_X2_isEither : GoodIn wsX2_gentlest wsX2_isEither := goodIn_r _ [6] (by decide +kernel) (by decide +kernel)
set_option maxRecDepth 20000 in
theorem gX2_gentlest_X2_isEither : GoodIn wsX2_gentlest (va_wsS RX2 156 yX2_isEither wsX2_isEither) := goodIn_app (goodIn_of _ (by decide +kernel)) ggX2_gentlest_X2_isEither
set_option maxRecDepth 20000 in
theorem ggX2_gentlest_X2_refuse : GoodIn wsX2_gentlest wsX2_refuse := goodIn_r _ [10, 11, 12, 13, 5, 14, 15, 16, 17, 135, 136, 137, 138, 139, 140, 141, 142, 143, 144, 145, 146] (by decide +kernel) (by decide +kernel)
set_option maxRecDepth 20000 in
theorem gX2_gentlest_X2_refuse : GoodIn wsX2_gentlest (wsV RX2 56 RX2 yX2_refuse wsX2_refuse) := goodIn_app (goodIn_of _ (by decide +kernel)) ggX2_gentlest_X2_refuse
set_option maxRecDepth 20000 in
theorem ggX2_gentlest_X1_least : GoodIn wsX2_gentlest wsX1_least := goodIn_r _ [22, 23, 24, 25, 26, 27, 28, 29, 30, 31, 32, 33, 34, 35, 36, 21, 37, 38, 39, 40, 41, 42, 43, 44, 45, 46, 47, 48, 49, 50, 51, 52, 53, 54, 55, 56, 57, 58, 59, 60, 61, 62, 63, 64, 65, 13, 5, 14, 16, 17, 66, 67, 68, 69, 70, 71, 72, 73, 74, 75, 76, 77, 78, 79, 80, 81, 82, 83, 84, 85, 86, 87, 88, 89, 90, 91, 92, 93, 94, 95, 96, 97, 98, 99, 100, 101, 102, 103, 104, 105, 106, 107, 108, 109, 12, 110, 111, 112, 113, 114, 147, 148, 149, 150, 151, 152, 153, 154, 155, 156, 157, 158, 159, 160, 161, 162, 163, 164, 165] (by decide +kernel) (by decide +kernel)
set_option maxRecDepth 20000 in
theorem gX2_gentlest_X1_least : GoodIn wsX2_gentlest (wsV RX2 159 RX1 yX1_least wsX1_least) := goodIn_app (goodIn_of _ (by decide +kernel)) ggX2_gentlest_X1_least
set_option maxRecDepth 20000 in
theorem ggX2_gentlest_X2_firstMove : GoodIn wsX2_gentlest wsX2_firstMove := goodIn_r _ [118, 1, 2, 119, 18, 19, 20, 21, 22, 23, 24, 25, 26, 27, 28, 29, 30, 31, 32, 33, 34, 35, 36, 37, 38, 39, 40, 41, 42, 43, 44, 45, 46, 47, 48, 49, 50, 51, 52, 53, 54, 55, 56, 57, 58, 59, 60, 61, 62, 63, 64, 65, 13, 5, 14, 16, 17, 66, 67, 68, 69, 70, 71, 72, 73, 74, 75, 76, 77, 78, 79, 80, 81, 82, 83, 84, 85, 86, 87, 88, 89, 90, 91, 92, 93, 94, 95, 96, 97, 98, 99, 100, 101, 102, 103, 104, 105, 106, 107, 108, 109, 12, 110, 111, 112, 113, 114, 120, 121, 122, 123, 124, 125, 126, 127, 128, 129, 130, 131, 132, 133, 134, 135, 136, 137, 138, 139, 140, 141, 142, 143, 144, 145, 146, 147, 148, 149, 150, 151, 152, 153, 154, 155, 156, 157, 158, 159, 160, 161, 162, 163, 164, 165] (by decide +kernel) (by decide +kernel)
set_option maxRecDepth 20000 in
theorem gX2_gentlest_X2_firstMove : GoodIn wsX2_gentlest (wsV RX2 163 RX2 yX2_firstMove wsX2_firstMove) := goodIn_app (goodIn_of _ (by decide +kernel)) ggX2_gentlest_X2_firstMove
theorem dX2_gentlest_0 : decode cX2_gentlest 0 = .ok (.iload_n 1, 1) := by decide +kernel
theorem dX2_gentlest_1 : decode cX2_gentlest 1 = .ok (.invokestatic 156, 3) := by decide +kernel
theorem dX2_gentlest_4 : decode cX2_gentlest 4 = .ok (.ifCond .ne 10, 3) := by decide +kernel
theorem dX2_gentlest_7 : decode cX2_gentlest 7 = .ok (.aload_n 0, 1) := by decide +kernel
theorem dX2_gentlest_8 : decode cX2_gentlest 8 = .ok (.bipush (-2), 2) := by decide +kernel
theorem dX2_gentlest_10 : decode cX2_gentlest 10 = .ok (.invokevirtual 56, 3) := by decide +kernel
theorem dX2_gentlest_13 : decode cX2_gentlest 13 = .ok (.ireturn, 1) := by decide +kernel
theorem dX2_gentlest_14 : decode cX2_gentlest 14 = .ok (.iload_n 1, 1) := by decide +kernel
theorem dX2_gentlest_15 : decode cX2_gentlest 15 = .ok (.ifCond .ne 21, 3) := by decide +kernel
theorem dX2_gentlest_18 : decode cX2_gentlest 18 = .ok (.aload_n 0, 1) := by decide +kernel
theorem dX2_gentlest_19 : decode cX2_gentlest 19 = .ok (.getfield 25, 3) := by decide +kernel
theorem dX2_gentlest_22 : decode cX2_gentlest 22 = .ok (.aload_n 0, 1) := by decide +kernel
theorem dX2_gentlest_23 : decode cX2_gentlest 23 = .ok (.getfield 10, 3) := by decide +kernel
theorem dX2_gentlest_26 : decode cX2_gentlest 26 = .ok (.iconst 0, 1) := by decide +kernel
theorem dX2_gentlest_27 : decode cX2_gentlest 27 = .ok (.iconst 1, 1) := by decide +kernel
theorem dX2_gentlest_28 : decode cX2_gentlest 28 = .ok (.bipush 60, 2) := by decide +kernel
theorem dX2_gentlest_30 : decode cX2_gentlest 30 = .ok (.invokevirtual 159, 3) := by decide +kernel
theorem dX2_gentlest_33 : decode cX2_gentlest 33 = .ok (.goto 10, 3) := by decide +kernel
theorem dX2_gentlest_36 : decode cX2_gentlest 36 = .ok (.aload_n 0, 1) := by decide +kernel
theorem dX2_gentlest_37 : decode cX2_gentlest 37 = .ok (.iconst 1, 1) := by decide +kernel
theorem dX2_gentlest_38 : decode cX2_gentlest 38 = .ok (.bipush 60, 2) := by decide +kernel
theorem dX2_gentlest_40 : decode cX2_gentlest 40 = .ok (.invokevirtual 163, 3) := by decide +kernel
theorem dX2_gentlest_43 : decode cX2_gentlest 43 = .ok (.ireturn, 1) := by decide +kernel
set_option maxRecDepth 20000 in
theorem ggX2_danger_X2_refuse : GoodIn wsX2_danger wsX2_refuse := goodIn_r _ [14, 15, 16, 17, 13, 18, 19, 20, 21, 22, 23, 24, 25, 26, 27, 28, 29, 30, 31, 32, 33] (by decide +kernel) (by decide +kernel)
set_option maxRecDepth 20000 in
theorem gX2_danger_X2_refuse : GoodIn wsX2_danger (wsV RX2 56 RX2 yX2_refuse wsX2_refuse) := goodIn_app (goodIn_of _ (by decide +kernel)) ggX2_danger_X2_refuse
theorem dX2_danger_0 : decode cX2_danger 0 = .ok (.iload_n 1, 1) := by decide +kernel
theorem dX2_danger_1 : decode cX2_danger 1 = .ok (.ifCond .ge 10, 3) := by decide +kernel
theorem dX2_danger_4 : decode cX2_danger 4 = .ok (.aload_n 0, 1) := by decide +kernel
theorem dX2_danger_5 : decode cX2_danger 5 = .ok (.bipush (-4), 2) := by decide +kernel
theorem dX2_danger_7 : decode cX2_danger 7 = .ok (.invokevirtual 56, 3) := by decide +kernel
theorem dX2_danger_10 : decode cX2_danger 10 = .ok (.ireturn, 1) := by decide +kernel
theorem dX2_danger_11 : decode cX2_danger 11 = .ok (.iload_n 1, 1) := by decide +kernel
theorem dX2_danger_12 : decode cX2_danger 12 = .ok (.bipush 9, 2) := by decide +kernel
theorem dX2_danger_14 : decode cX2_danger 14 = .ok (.if_icmp .le 10, 3) := by decide +kernel
theorem dX2_danger_17 : decode cX2_danger 17 = .ok (.aload_n 0, 1) := by decide +kernel
theorem dX2_danger_18 : decode cX2_danger 18 = .ok (.bipush (-6), 2) := by decide +kernel
theorem dX2_danger_20 : decode cX2_danger 20 = .ok (.invokevirtual 56, 3) := by decide +kernel
theorem dX2_danger_23 : decode cX2_danger 23 = .ok (.ireturn, 1) := by decide +kernel
theorem dX2_danger_24 : decode cX2_danger 24 = .ok (.bipush 99, 2) := by decide +kernel
theorem dX2_danger_26 : decode cX2_danger 26 = .ok (.aload_n 0, 1) := by decide +kernel
theorem dX2_danger_27 : decode cX2_danger 27 = .ok (.getfield 10, 3) := by decide +kernel
theorem dX2_danger_30 : decode cX2_danger 30 = .ok (.getfield 167, 3) := by decide +kernel
theorem dX2_danger_33 : decode cX2_danger 33 = .ok (.iload_n 1, 1) := by decide +kernel
theorem dX2_danger_34 : decode cX2_danger 34 = .ok (.iconst 5, 1) := by decide +kernel
theorem dX2_danger_35 : decode cX2_danger 35 = .ok (.imul, 1) := by decide +kernel
theorem dX2_danger_36 : decode cX2_danger 36 = .ok (.iadd, 1) := by decide +kernel
theorem dX2_danger_37 : decode cX2_danger 37 = .ok (.invokestatic 170, 3) := by decide +kernel
theorem dX2_danger_40 : decode cX2_danger 40 = .ok (.istore_n 2, 1) := by decide +kernel
theorem dX2_danger_41 : decode cX2_danger 41 = .ok (.iconst 0, 1) := by decide +kernel
theorem dX2_danger_42 : decode cX2_danger 42 = .ok (.iload_n 2, 1) := by decide +kernel
theorem dX2_danger_43 : decode cX2_danger 43 = .ok (.bipush 9, 2) := by decide +kernel
theorem dX2_danger_45 : decode cX2_danger 45 = .ok (.isub, 1) := by decide +kernel
theorem dX2_danger_46 : decode cX2_danger 46 = .ok (.invokestatic 175, 3) := by decide +kernel
theorem dX2_danger_49 : decode cX2_danger 49 = .ok (.ireturn, 1) := by decide +kernel
set_option maxRecDepth 20000 in
theorem ggX2_sticks_X2_monthRefusal : GoodIn wsX2_sticks wsX2_monthRefusal := goodIn_r _ [5, 6, 7, 8, 9, 4, 10, 11, 12, 13, 14, 15, 16, 17, 69, 70, 71, 72, 73, 74, 75, 76, 77, 78, 79, 80] (by decide +kernel) (by decide +kernel)
set_option maxRecDepth 20000 in
theorem gX2_sticks_X2_monthRefusal : GoodIn wsX2_sticks (wsV RX2 178 RX2 yX2_monthRefusal wsX2_monthRefusal) := goodIn_app (goodIn_of _ (by decide +kernel)) ggX2_sticks_X2_monthRefusal
set_option maxRecDepth 20000 in
theorem ggX2_sticks_X2_measureMonths : GoodIn wsX2_sticks wsX2_measureMonths := goodIn_r _ [21, 22, 23, 24, 25, 26, 27, 28, 29, 30, 31, 32, 33, 34, 35, 36, 37, 38, 39, 40, 41, 42, 43, 44, 45, 46, 47, 48, 49, 12, 13, 4, 14, 50, 51, 52, 53, 54, 55, 56, 57, 58, 59, 60, 61, 62, 63, 64, 15, 16, 17, 69, 70, 71, 72, 73, 74, 75, 76, 77, 78, 79, 80, 81, 82, 83, 84, 85, 86, 87, 88, 89, 90, 91, 92] (by decide +kernel) (by decide +kernel)
set_option maxRecDepth 20000 in
theorem gX2_sticks_X2_measureMonths : GoodIn wsX2_sticks (wsV RX2 181 RX2 yX2_measureMonths wsX2_measureMonths) := goodIn_app (goodIn_of _ (by decide +kernel)) ggX2_sticks_X2_measureMonths
set_option maxRecDepth 20000 in
theorem ggX2_sticks_X2_stickMonths : GoodIn wsX2_sticks wsX2_stickMonths := goodIn_r _ [68, 28, 12, 13, 4, 14, 69, 70, 71, 72, 73, 74, 75, 76, 77, 78, 79, 80] (by decide +kernel) (by decide +kernel)
set_option maxRecDepth 20000 in
theorem gX2_sticks_X2_stickMonths : GoodIn wsX2_sticks (wsV RX2 184 RX2 yX2_stickMonths wsX2_stickMonths) := goodIn_app (goodIn_of _ (by decide +kernel)) ggX2_sticks_X2_stickMonths
theorem dX2_sticks_0 : decode cX2_sticks 0 = .ok (.aload_n 0, 1) := by decide +kernel
theorem dX2_sticks_1 : decode cX2_sticks 1 = .ok (.iload_n 1, 1) := by decide +kernel
theorem dX2_sticks_2 : decode cX2_sticks 2 = .ok (.invokevirtual 178, 3) := by decide +kernel
theorem dX2_sticks_5 : decode cX2_sticks 5 = .ok (.istore_n 2, 1) := by decide +kernel
theorem dX2_sticks_6 : decode cX2_sticks 6 = .ok (.iload_n 2, 1) := by decide +kernel
theorem dX2_sticks_7 : decode cX2_sticks 7 = .ok (.ifCond .eq 5, 3) := by decide +kernel
theorem dX2_sticks_10 : decode cX2_sticks 10 = .ok (.iload_n 2, 1) := by decide +kernel
theorem dX2_sticks_11 : decode cX2_sticks 11 = .ok (.ireturn, 1) := by decide +kernel
theorem dX2_sticks_12 : decode cX2_sticks 12 = .ok (.aload_n 0, 1) := by decide +kernel
theorem dX2_sticks_13 : decode cX2_sticks 13 = .ok (.invokevirtual 181, 3) := by decide +kernel
theorem dX2_sticks_16 : decode cX2_sticks 16 = .ok (.aload_n 0, 1) := by decide +kernel
theorem dX2_sticks_17 : decode cX2_sticks 17 = .ok (.iload_n 1, 1) := by decide +kernel
theorem dX2_sticks_18 : decode cX2_sticks 18 = .ok (.invokevirtual 184, 3) := by decide +kernel
theorem dX2_sticks_21 : decode cX2_sticks 21 = .ok (.ireturn, 1) := by decide +kernel
set_option maxRecDepth 20000 in
theorem ggX2_falls_X2_monthRefusal : GoodIn wsX2_falls wsX2_monthRefusal := goodIn_r _ [5, 6, 7, 8, 9, 4, 10, 11, 12, 13, 14, 15, 16, 17, 69, 70, 71, 72, 73, 74, 75, 76, 77, 78, 79, 80] (by decide +kernel) (by decide +kernel)
set_option maxRecDepth 20000 in
theorem gX2_falls_X2_monthRefusal : GoodIn wsX2_falls (wsV RX2 178 RX2 yX2_monthRefusal wsX2_monthRefusal) := goodIn_app (goodIn_of _ (by decide +kernel)) ggX2_falls_X2_monthRefusal
set_option maxRecDepth 20000 in
theorem ggX2_falls_X2_measureMonths : GoodIn wsX2_falls wsX2_measureMonths := goodIn_r _ [21, 22, 23, 24, 25, 26, 27, 28, 29, 30, 31, 32, 33, 34, 35, 36, 37, 38, 39, 40, 41, 42, 43, 44, 45, 46, 47, 48, 49, 12, 13, 4, 14, 50, 51, 52, 53, 54, 55, 56, 57, 58, 59, 60, 61, 62, 63, 64, 15, 16, 17, 69, 70, 71, 72, 73, 74, 75, 76, 77, 78, 79, 80, 81, 82, 83, 84, 85, 86, 87, 88, 89, 90, 91, 92] (by decide +kernel) (by decide +kernel)
set_option maxRecDepth 20000 in
theorem gX2_falls_X2_measureMonths : GoodIn wsX2_falls (wsV RX2 181 RX2 yX2_measureMonths wsX2_measureMonths) := goodIn_app (goodIn_of _ (by decide +kernel)) ggX2_falls_X2_measureMonths
set_option maxRecDepth 20000 in
theorem ggX2_falls_X2_fallMonths : GoodIn wsX2_falls wsX2_fallMonths := goodIn_r _ [68, 28, 12, 13, 4, 14, 69, 70, 71, 72, 73, 74, 75, 76, 77, 78, 79, 80] (by decide +kernel) (by decide +kernel)
set_option maxRecDepth 20000 in
theorem gX2_falls_X2_fallMonths : GoodIn wsX2_falls (wsV RX2 187 RX2 yX2_fallMonths wsX2_fallMonths) := goodIn_app (goodIn_of _ (by decide +kernel)) ggX2_falls_X2_fallMonths
theorem dX2_falls_0 : decode cX2_falls 0 = .ok (.aload_n 0, 1) := by decide +kernel
theorem dX2_falls_1 : decode cX2_falls 1 = .ok (.iload_n 1, 1) := by decide +kernel
theorem dX2_falls_2 : decode cX2_falls 2 = .ok (.invokevirtual 178, 3) := by decide +kernel
theorem dX2_falls_5 : decode cX2_falls 5 = .ok (.istore_n 2, 1) := by decide +kernel
theorem dX2_falls_6 : decode cX2_falls 6 = .ok (.iload_n 2, 1) := by decide +kernel
theorem dX2_falls_7 : decode cX2_falls 7 = .ok (.ifCond .eq 5, 3) := by decide +kernel
theorem dX2_falls_10 : decode cX2_falls 10 = .ok (.iload_n 2, 1) := by decide +kernel
theorem dX2_falls_11 : decode cX2_falls 11 = .ok (.ireturn, 1) := by decide +kernel
theorem dX2_falls_12 : decode cX2_falls 12 = .ok (.aload_n 0, 1) := by decide +kernel
theorem dX2_falls_13 : decode cX2_falls 13 = .ok (.invokevirtual 181, 3) := by decide +kernel
theorem dX2_falls_16 : decode cX2_falls 16 = .ok (.aload_n 0, 1) := by decide +kernel
theorem dX2_falls_17 : decode cX2_falls 17 = .ok (.iload_n 1, 1) := by decide +kernel
theorem dX2_falls_18 : decode cX2_falls 18 = .ok (.invokevirtual 187, 3) := by decide +kernel
theorem dX2_falls_21 : decode cX2_falls 21 = .ok (.ireturn, 1) := by decide +kernel
set_option maxRecDepth 20000 in
theorem ggX2_year_X2_priceRange : GoodIn wsX2_year wsX2_priceRange := goodIn_r _ [5] (by decide +kernel) (by decide +kernel)
set_option maxRecDepth 20000 in
theorem gX2_year_X2_priceRange : GoodIn wsX2_year (va_wsS RX2 190 yX2_priceRange wsX2_priceRange) := goodIn_app (goodIn_of _ (by decide +kernel)) ggX2_year_X2_priceRange
set_option maxRecDepth 20000 in
theorem ggX2_year_X2_refuse : GoodIn wsX2_year wsX2_refuse := goodIn_r _ [9, 10, 11, 12, 4, 13, 14, 15, 16, 90, 91, 92, 93, 94, 95, 96, 97, 98, 99, 100, 101] (by decide +kernel) (by decide +kernel)
set_option maxRecDepth 20000 in
theorem gX2_year_X2_refuse : GoodIn wsX2_year (wsV RX2 56 RX2 yX2_refuse wsX2_refuse) := goodIn_app (goodIn_of _ (by decide +kernel)) ggX2_year_X2_refuse
set_option maxRecDepth 20000 in
theorem ggX2_year_X2_isEither : GoodIn wsX2_year wsX2_isEither := goodIn_r _ [19] (by decide +kernel) (by decide +kernel)
set_option maxRecDepth 20000 in
theorem gX2_year_X2_isEither : GoodIn wsX2_year (va_wsS RX2 156 yX2_isEither wsX2_isEither) := goodIn_app (goodIn_of _ (by decide +kernel)) ggX2_year_X2_isEither
set_option maxRecDepth 20000 in
theorem ggX2_year_X2_measureMonths : GoodIn wsX2_year wsX2_measureMonths := goodIn_r _ [23, 24, 25, 26, 27, 28, 29, 30, 31, 32, 33, 34, 35, 36, 37, 38, 39, 40, 41, 42, 43, 44, 45, 46, 47, 48, 49, 50, 51, 11, 12, 4, 13, 52, 53, 54, 55, 56, 57, 58, 59, 60, 61, 62, 63, 64, 65, 66, 14, 15, 16, 90, 91, 92, 93, 94, 95, 96, 97, 98, 99, 100, 101, 102, 103, 104, 105, 106, 107, 108, 109, 110, 111, 112, 113] (by decide +kernel) (by decide +kernel)
set_option maxRecDepth 20000 in
theorem gX2_year_X2_measureMonths : GoodIn wsX2_year (wsV RX2 181 RX2 yX2_measureMonths wsX2_measureMonths) := goodIn_app (goodIn_of _ (by decide +kernel)) ggX2_year_X2_measureMonths
set_option maxRecDepth 20000 in
theorem ggX2_year_X2_bestSize : GoodIn wsX2_year wsX2_bestSize := goodIn_r _ [70, 71, 72, 73, 4, 74, 75, 76, 77, 78, 30, 11, 12, 13, 79, 80, 81, 82, 83, 84, 85, 86, 87, 88, 89, 90, 91, 92, 93, 94, 95, 96, 97, 98, 99, 100, 101] (by decide +kernel) (by decide +kernel)
set_option maxRecDepth 20000 in
theorem gX2_year_X2_bestSize : GoodIn wsX2_year (wsV RX2 193 RX2 yX2_bestSize wsX2_bestSize) := goodIn_app (goodIn_of _ (by decide +kernel)) ggX2_year_X2_bestSize
set_option maxRecDepth 20000 in
theorem ggX2_year_X2_cost : GoodIn wsX2_year wsX2_cost := goodIn_r _ [74, 75, 76, 77, 4, 78, 30, 11, 12, 13, 79, 80, 81, 82, 83, 84, 85, 86, 87, 88, 89, 90, 91, 92, 93, 94, 95, 96, 97, 98, 99, 100, 101] (by decide +kernel) (by decide +kernel)
set_option maxRecDepth 20000 in
theorem gX2_year_X2_cost : GoodIn wsX2_year (wsV RX2 197 RX2 yX2_cost wsX2_cost) := goodIn_app (goodIn_of _ (by decide +kernel)) ggX2_year_X2_cost
theorem dX2_year_0 : decode cX2_year 0 = .ok (.iload_n 1, 1) := by decide +kernel
theorem dX2_year_1 : decode cX2_year 1 = .ok (.iload_n 2, 1) := by decide +kernel
theorem dX2_year_2 : decode cX2_year 2 = .ok (.invokestatic 190, 3) := by decide +kernel
theorem dX2_year_5 : decode cX2_year 5 = .ok (.istore 4, 2) := by decide +kernel
theorem dX2_year_7 : decode cX2_year 7 = .ok (.iload 4, 2) := by decide +kernel
theorem dX2_year_9 : decode cX2_year 9 = .ok (.ifCond .eq 10, 3) := by decide +kernel
theorem dX2_year_12 : decode cX2_year 12 = .ok (.aload_n 0, 1) := by decide +kernel
theorem dX2_year_13 : decode cX2_year 13 = .ok (.iload 4, 2) := by decide +kernel
theorem dX2_year_15 : decode cX2_year 15 = .ok (.invokevirtual 56, 3) := by decide +kernel
theorem dX2_year_18 : decode cX2_year 18 = .ok (.ireturn, 1) := by decide +kernel
theorem dX2_year_19 : decode cX2_year 19 = .ok (.iload_n 3, 1) := by decide +kernel
theorem dX2_year_20 : decode cX2_year 20 = .ok (.invokestatic 156, 3) := by decide +kernel
theorem dX2_year_23 : decode cX2_year 23 = .ok (.ifCond .ne 10, 3) := by decide +kernel
theorem dX2_year_26 : decode cX2_year 26 = .ok (.aload_n 0, 1) := by decide +kernel
theorem dX2_year_27 : decode cX2_year 27 = .ok (.bipush (-2), 2) := by decide +kernel
theorem dX2_year_29 : decode cX2_year 29 = .ok (.invokevirtual 56, 3) := by decide +kernel
theorem dX2_year_32 : decode cX2_year 32 = .ok (.ireturn, 1) := by decide +kernel
theorem dX2_year_33 : decode cX2_year 33 = .ok (.aload_n 0, 1) := by decide +kernel
theorem dX2_year_34 : decode cX2_year 34 = .ok (.getfield 46, 3) := by decide +kernel
theorem dX2_year_37 : decode cX2_year 37 = .ok (.bipush 12, 2) := by decide +kernel
theorem dX2_year_39 : decode cX2_year 39 = .ok (.if_icmp .eq 10, 3) := by decide +kernel
theorem dX2_year_42 : decode cX2_year 42 = .ok (.aload_n 0, 1) := by decide +kernel
theorem dX2_year_43 : decode cX2_year 43 = .ok (.bipush (-3), 2) := by decide +kernel
theorem dX2_year_45 : decode cX2_year 45 = .ok (.invokevirtual 56, 3) := by decide +kernel
theorem dX2_year_48 : decode cX2_year 48 = .ok (.ireturn, 1) := by decide +kernel
theorem dX2_year_49 : decode cX2_year 49 = .ok (.aload_n 0, 1) := by decide +kernel
theorem dX2_year_50 : decode cX2_year 50 = .ok (.invokevirtual 181, 3) := by decide +kernel
theorem dX2_year_53 : decode cX2_year 53 = .ok (.aload_n 0, 1) := by decide +kernel
theorem dX2_year_54 : decode cX2_year 54 = .ok (.sipush 4095, 3) := by decide +kernel
theorem dX2_year_57 : decode cX2_year 57 = .ok (.iload_n 1, 1) := by decide +kernel
theorem dX2_year_58 : decode cX2_year 58 = .ok (.iload_n 2, 1) := by decide +kernel
theorem dX2_year_59 : decode cX2_year 59 = .ok (.invokevirtual 193, 3) := by decide +kernel
theorem dX2_year_62 : decode cX2_year 62 = .ok (.istore 5, 2) := by decide +kernel
theorem dX2_year_64 : decode cX2_year 64 = .ok (.iload_n 3, 1) := by decide +kernel
theorem dX2_year_65 : decode cX2_year 65 = .ok (.ifCond .ne 8, 3) := by decide +kernel
theorem dX2_year_68 : decode cX2_year 68 = .ok (.iload 5, 2) := by decide +kernel
theorem dX2_year_70 : decode cX2_year 70 = .ok (.goto 14, 3) := by decide +kernel
theorem dX2_year_73 : decode cX2_year 73 = .ok (.aload_n 0, 1) := by decide +kernel
theorem dX2_year_74 : decode cX2_year 74 = .ok (.iload 5, 2) := by decide +kernel
theorem dX2_year_76 : decode cX2_year 76 = .ok (.sipush 4095, 3) := by decide +kernel
theorem dX2_year_79 : decode cX2_year 79 = .ok (.iload_n 1, 1) := by decide +kernel
theorem dX2_year_80 : decode cX2_year 80 = .ok (.iload_n 2, 1) := by decide +kernel
theorem dX2_year_81 : decode cX2_year 81 = .ok (.invokevirtual 197, 3) := by decide +kernel
theorem dX2_year_84 : decode cX2_year 84 = .ok (.ireturn, 1) := by decide +kernel
set_option maxRecDepth 20000 in
theorem ggX2_two_X2_spanRange : GoodIn wsX2_two wsX2_spanRange := goodIn_r _ [5, 6, 7, 4, 8] (by decide +kernel) (by decide +kernel)
set_option maxRecDepth 20000 in
theorem gX2_two_X2_spanRange : GoodIn wsX2_two (va_wsS RX2 201 yX2_spanRange wsX2_spanRange) := goodIn_app (goodIn_of _ (by decide +kernel)) ggX2_two_X2_spanRange
set_option maxRecDepth 20000 in
theorem ggX2_two_X2_refuse : GoodIn wsX2_two wsX2_refuse := goodIn_r _ [12, 13, 14, 15, 4, 16, 17, 18, 19, 101, 102, 103, 104, 105, 106, 107, 108, 109, 110, 111, 112] (by decide +kernel) (by decide +kernel)
set_option maxRecDepth 20000 in
theorem gX2_two_X2_refuse : GoodIn wsX2_two (wsV RX2 56 RX2 yX2_refuse wsX2_refuse) := goodIn_app (goodIn_of _ (by decide +kernel)) ggX2_two_X2_refuse
set_option maxRecDepth 20000 in
theorem ggX2_two_X2_measureMonths : GoodIn wsX2_two wsX2_measureMonths := goodIn_r _ [23, 24, 25, 26, 27, 28, 29, 30, 31, 32, 33, 34, 35, 36, 37, 38, 39, 40, 41, 42, 43, 44, 45, 46, 47, 48, 49, 50, 51, 14, 15, 4, 16, 52, 53, 54, 55, 56, 57, 58, 59, 60, 61, 62, 63, 64, 65, 66, 17, 18, 19, 101, 102, 103, 104, 105, 106, 107, 108, 109, 110, 111, 112, 113, 114, 115, 116, 117, 118, 119, 120, 121, 122, 123, 124] (by decide +kernel) (by decide +kernel)
set_option maxRecDepth 20000 in
theorem gX2_two_X2_measureMonths : GoodIn wsX2_two (wsV RX2 181 RX2 yX2_measureMonths wsX2_measureMonths) := goodIn_app (goodIn_of _ (by decide +kernel)) ggX2_two_X2_measureMonths
set_option maxRecDepth 20000 in
theorem ggX2_two_X2_monthSpan : GoodIn wsX2_two wsX2_monthSpan := goodIn_r _ [69] (by decide +kernel) (by decide +kernel)
set_option maxRecDepth 20000 in
theorem gX2_two_X2_monthSpan : GoodIn wsX2_two (va_wsS RX2 204 yX2_monthSpan wsX2_monthSpan) := goodIn_app (goodIn_of _ (by decide +kernel)) ggX2_two_X2_monthSpan
set_option maxRecDepth 20000 in
theorem ggX2_two_X2_bestSize : GoodIn wsX2_two wsX2_bestSize := goodIn_r _ [73, 74, 75, 76, 4, 77, 78, 79, 80, 81, 30, 14, 15, 16, 82, 83, 84, 85, 86, 87, 88, 89, 90, 91, 92, 101, 102, 103, 104, 105, 106, 107, 108, 109, 110, 111, 112] (by decide +kernel) (by decide +kernel)
set_option maxRecDepth 20000 in
theorem gX2_two_X2_bestSize : GoodIn wsX2_two (wsV RX2 193 RX2 yX2_bestSize wsX2_bestSize) := goodIn_app (goodIn_of _ (by decide +kernel)) ggX2_two_X2_bestSize
set_option maxRecDepth 20000 in
theorem ggX2_two_X2_twoCost : GoodIn wsX2_two wsX2_twoCost := goodIn_r _ [96, 97, 98, 99, 4, 100, 70, 71, 72, 73, 74, 75, 76, 77, 78, 79, 80, 81, 30, 14, 15, 16, 82, 83, 84, 85, 86, 87, 88, 89, 90, 91, 92, 101, 102, 103, 104, 105, 106, 107, 108, 109, 110, 111, 112] (by decide +kernel) (by decide +kernel)
set_option maxRecDepth 20000 in
theorem gX2_two_X2_twoCost : GoodIn wsX2_two (wsV RX2 207 RX2 yX2_twoCost wsX2_twoCost) := goodIn_app (goodIn_of _ (by decide +kernel)) ggX2_two_X2_twoCost
theorem dX2_two_0 : decode cX2_two 0 = .ok (.iload_n 1, 1) := by decide +kernel
theorem dX2_two_1 : decode cX2_two 1 = .ok (.iload_n 2, 1) := by decide +kernel
theorem dX2_two_2 : decode cX2_two 2 = .ok (.iload_n 3, 1) := by decide +kernel
theorem dX2_two_3 : decode cX2_two 3 = .ok (.iload 4, 2) := by decide +kernel
theorem dX2_two_5 : decode cX2_two 5 = .ok (.invokestatic 201, 3) := by decide +kernel
theorem dX2_two_8 : decode cX2_two 8 = .ok (.istore 6, 2) := by decide +kernel
theorem dX2_two_10 : decode cX2_two 10 = .ok (.iload 6, 2) := by decide +kernel
theorem dX2_two_12 : decode cX2_two 12 = .ok (.ifCond .eq 10, 3) := by decide +kernel
theorem dX2_two_15 : decode cX2_two 15 = .ok (.aload_n 0, 1) := by decide +kernel
theorem dX2_two_16 : decode cX2_two 16 = .ok (.iload 6, 2) := by decide +kernel
theorem dX2_two_18 : decode cX2_two 18 = .ok (.invokevirtual 56, 3) := by decide +kernel
theorem dX2_two_21 : decode cX2_two 21 = .ok (.ireturn, 1) := by decide +kernel
theorem dX2_two_22 : decode cX2_two 22 = .ok (.iload 5, 2) := by decide +kernel
theorem dX2_two_24 : decode cX2_two 24 = .ok (.ifCond .lt 9, 3) := by decide +kernel
theorem dX2_two_27 : decode cX2_two 27 = .ok (.iload 5, 2) := by decide +kernel
theorem dX2_two_29 : decode cX2_two 29 = .ok (.iconst 2, 1) := by decide +kernel
theorem dX2_two_30 : decode cX2_two 30 = .ok (.if_icmp .le 10, 3) := by decide +kernel
theorem dX2_two_33 : decode cX2_two 33 = .ok (.aload_n 0, 1) := by decide +kernel
theorem dX2_two_34 : decode cX2_two 34 = .ok (.bipush (-2), 2) := by decide +kernel
theorem dX2_two_36 : decode cX2_two 36 = .ok (.invokevirtual 56, 3) := by decide +kernel
theorem dX2_two_39 : decode cX2_two 39 = .ok (.ireturn, 1) := by decide +kernel
theorem dX2_two_40 : decode cX2_two 40 = .ok (.aload_n 0, 1) := by decide +kernel
theorem dX2_two_41 : decode cX2_two 41 = .ok (.getfield 46, 3) := by decide +kernel
theorem dX2_two_44 : decode cX2_two 44 = .ok (.bipush 12, 2) := by decide +kernel
theorem dX2_two_46 : decode cX2_two 46 = .ok (.if_icmp .eq 10, 3) := by decide +kernel
theorem dX2_two_49 : decode cX2_two 49 = .ok (.aload_n 0, 1) := by decide +kernel
theorem dX2_two_50 : decode cX2_two 50 = .ok (.bipush (-3), 2) := by decide +kernel
theorem dX2_two_52 : decode cX2_two 52 = .ok (.invokevirtual 56, 3) := by decide +kernel
theorem dX2_two_55 : decode cX2_two 55 = .ok (.ireturn, 1) := by decide +kernel
theorem dX2_two_56 : decode cX2_two 56 = .ok (.aload_n 0, 1) := by decide +kernel
theorem dX2_two_57 : decode cX2_two 57 = .ok (.invokevirtual 181, 3) := by decide +kernel
theorem dX2_two_60 : decode cX2_two 60 = .ok (.iload_n 1, 1) := by decide +kernel
theorem dX2_two_61 : decode cX2_two 61 = .ok (.iload_n 2, 1) := by decide +kernel
theorem dX2_two_62 : decode cX2_two 62 = .ok (.invokestatic 204, 3) := by decide +kernel
theorem dX2_two_65 : decode cX2_two 65 = .ok (.istore 7, 2) := by decide +kernel
theorem dX2_two_67 : decode cX2_two 67 = .ok (.iload 5, 2) := by decide +kernel
theorem dX2_two_69 : decode cX2_two 69 = .ok (.lookupswitch 51 #[(0, 27), (1, 37)], 27) := by decide +kernel
theorem dX2_two_96 : decode cX2_two 96 = .ok (.aload_n 0, 1) := by decide +kernel
theorem dX2_two_97 : decode cX2_two 97 = .ok (.iload 7, 2) := by decide +kernel
theorem dX2_two_99 : decode cX2_two 99 = .ok (.iload_n 3, 1) := by decide +kernel
theorem dX2_two_100 : decode cX2_two 100 = .ok (.iload 4, 2) := by decide +kernel
theorem dX2_two_102 : decode cX2_two 102 = .ok (.invokevirtual 193, 3) := by decide +kernel
theorem dX2_two_105 : decode cX2_two 105 = .ok (.ireturn, 1) := by decide +kernel
theorem dX2_two_106 : decode cX2_two 106 = .ok (.aload_n 0, 1) := by decide +kernel
theorem dX2_two_107 : decode cX2_two 107 = .ok (.sipush 4095, 3) := by decide +kernel
theorem dX2_two_110 : decode cX2_two 110 = .ok (.iload 7, 2) := by decide +kernel
theorem dX2_two_112 : decode cX2_two 112 = .ok (.isub, 1) := by decide +kernel
theorem dX2_two_113 : decode cX2_two 113 = .ok (.iload_n 3, 1) := by decide +kernel
theorem dX2_two_114 : decode cX2_two 114 = .ok (.iload 4, 2) := by decide +kernel
theorem dX2_two_116 : decode cX2_two 116 = .ok (.invokevirtual 193, 3) := by decide +kernel
theorem dX2_two_119 : decode cX2_two 119 = .ok (.ireturn, 1) := by decide +kernel
theorem dX2_two_120 : decode cX2_two 120 = .ok (.aload_n 0, 1) := by decide +kernel
theorem dX2_two_121 : decode cX2_two 121 = .ok (.iload 7, 2) := by decide +kernel
theorem dX2_two_123 : decode cX2_two 123 = .ok (.iload_n 3, 1) := by decide +kernel
theorem dX2_two_124 : decode cX2_two 124 = .ok (.iload 4, 2) := by decide +kernel
theorem dX2_two_126 : decode cX2_two 126 = .ok (.invokevirtual 207, 3) := by decide +kernel
theorem dX2_two_129 : decode cX2_two 129 = .ok (.ireturn, 1) := by decide +kernel
set_option maxRecDepth 20000 in
theorem ggX2_worth_X2_spanRange : GoodIn wsX2_worth wsX2_spanRange := goodIn_r _ [6, 7, 8, 5, 9] (by decide +kernel) (by decide +kernel)
set_option maxRecDepth 20000 in
theorem gX2_worth_X2_spanRange : GoodIn wsX2_worth (va_wsS RX2 201 yX2_spanRange wsX2_spanRange) := goodIn_app (goodIn_of _ (by decide +kernel)) ggX2_worth_X2_spanRange
set_option maxRecDepth 20000 in
theorem ggX2_worth_X2_refuse : GoodIn wsX2_worth wsX2_refuse := goodIn_r _ [13, 14, 15, 16, 5, 17, 18, 19, 20, 102, 103, 104, 105, 106, 107, 108, 109, 110, 111, 112, 113] (by decide +kernel) (by decide +kernel)
set_option maxRecDepth 20000 in
theorem gX2_worth_X2_refuse : GoodIn wsX2_worth (wsV RX2 56 RX2 yX2_refuse wsX2_refuse) := goodIn_app (goodIn_of _ (by decide +kernel)) ggX2_worth_X2_refuse
set_option maxRecDepth 20000 in
theorem ggX2_worth_X2_measureMonths : GoodIn wsX2_worth wsX2_measureMonths := goodIn_r _ [24, 25, 26, 27, 28, 29, 30, 31, 32, 33, 34, 35, 36, 37, 38, 39, 40, 41, 42, 43, 44, 45, 46, 47, 48, 49, 50, 51, 52, 15, 16, 5, 17, 53, 54, 55, 56, 57, 58, 59, 60, 61, 62, 63, 64, 65, 66, 67, 18, 19, 20, 102, 103, 104, 105, 106, 107, 108, 109, 110, 111, 112, 113, 114, 115, 116, 117, 118, 119, 120, 121, 122, 123, 124, 125] (by decide +kernel) (by decide +kernel)
set_option maxRecDepth 20000 in
theorem gX2_worth_X2_measureMonths : GoodIn wsX2_worth (wsV RX2 181 RX2 yX2_measureMonths wsX2_measureMonths) := goodIn_app (goodIn_of _ (by decide +kernel)) ggX2_worth_X2_measureMonths
set_option maxRecDepth 20000 in
theorem ggX2_worth_X2_leastCost : GoodIn wsX2_worth wsX2_leastCost := goodIn_r _ [71, 72, 73, 74, 5, 75, 76, 77, 78, 79, 80, 81, 82, 83, 31, 15, 16, 17, 84, 85, 86, 87, 88, 89, 90, 91, 92, 93, 94, 102, 103, 104, 105, 106, 107, 108, 109, 110, 111, 112, 113] (by decide +kernel) (by decide +kernel)
set_option maxRecDepth 20000 in
theorem gX2_worth_X2_leastCost : GoodIn wsX2_worth (wsV RX2 211 RX2 yX2_leastCost wsX2_leastCost) := goodIn_app (goodIn_of _ (by decide +kernel)) ggX2_worth_X2_leastCost
set_option maxRecDepth 20000 in
theorem ggX2_worth_X2_monthSpan : GoodIn wsX2_worth wsX2_monthSpan := goodIn_r _ [97] (by decide +kernel) (by decide +kernel)
set_option maxRecDepth 20000 in
theorem gX2_worth_X2_monthSpan : GoodIn wsX2_worth (va_wsS RX2 204 yX2_monthSpan wsX2_monthSpan) := goodIn_app (goodIn_of _ (by decide +kernel)) ggX2_worth_X2_monthSpan
set_option maxRecDepth 20000 in
theorem ggX2_worth_X2_twoCost : GoodIn wsX2_worth wsX2_twoCost := goodIn_r _ [101, 68, 69, 70, 5, 71, 72, 73, 74, 75, 76, 77, 78, 79, 80, 81, 82, 83, 31, 15, 16, 17, 84, 85, 86, 87, 88, 89, 90, 91, 92, 93, 94, 102, 103, 104, 105, 106, 107, 108, 109, 110, 111, 112, 113] (by decide +kernel) (by decide +kernel)
set_option maxRecDepth 20000 in
theorem gX2_worth_X2_twoCost : GoodIn wsX2_worth (wsV RX2 207 RX2 yX2_twoCost wsX2_twoCost) := goodIn_app (goodIn_of _ (by decide +kernel)) ggX2_worth_X2_twoCost
theorem dX2_worth_0 : decode cX2_worth 0 = .ok (.iload_n 1, 1) := by decide +kernel
theorem dX2_worth_1 : decode cX2_worth 1 = .ok (.iload_n 2, 1) := by decide +kernel
theorem dX2_worth_2 : decode cX2_worth 2 = .ok (.iload_n 3, 1) := by decide +kernel
theorem dX2_worth_3 : decode cX2_worth 3 = .ok (.iload 4, 2) := by decide +kernel
theorem dX2_worth_5 : decode cX2_worth 5 = .ok (.invokestatic 201, 3) := by decide +kernel
theorem dX2_worth_8 : decode cX2_worth 8 = .ok (.istore 5, 2) := by decide +kernel
theorem dX2_worth_10 : decode cX2_worth 10 = .ok (.iload 5, 2) := by decide +kernel
theorem dX2_worth_12 : decode cX2_worth 12 = .ok (.ifCond .eq 13, 3) := by decide +kernel
theorem dX2_worth_15 : decode cX2_worth 15 = .ok (.ldc 210, 2) := by decide +kernel
theorem dX2_worth_17 : decode cX2_worth 17 = .ok (.aload_n 0, 1) := by decide +kernel
theorem dX2_worth_18 : decode cX2_worth 18 = .ok (.iload 5, 2) := by decide +kernel
theorem dX2_worth_20 : decode cX2_worth 20 = .ok (.invokevirtual 56, 3) := by decide +kernel
theorem dX2_worth_23 : decode cX2_worth 23 = .ok (.isub, 1) := by decide +kernel
theorem dX2_worth_24 : decode cX2_worth 24 = .ok (.ireturn, 1) := by decide +kernel
theorem dX2_worth_25 : decode cX2_worth 25 = .ok (.aload_n 0, 1) := by decide +kernel
theorem dX2_worth_26 : decode cX2_worth 26 = .ok (.getfield 46, 3) := by decide +kernel
theorem dX2_worth_29 : decode cX2_worth 29 = .ok (.bipush 12, 2) := by decide +kernel
theorem dX2_worth_31 : decode cX2_worth 31 = .ok (.if_icmp .eq 13, 3) := by decide +kernel
theorem dX2_worth_34 : decode cX2_worth 34 = .ok (.ldc 210, 2) := by decide +kernel
theorem dX2_worth_36 : decode cX2_worth 36 = .ok (.aload_n 0, 1) := by decide +kernel
theorem dX2_worth_37 : decode cX2_worth 37 = .ok (.bipush (-3), 2) := by decide +kernel
theorem dX2_worth_39 : decode cX2_worth 39 = .ok (.invokevirtual 56, 3) := by decide +kernel
theorem dX2_worth_42 : decode cX2_worth 42 = .ok (.isub, 1) := by decide +kernel
theorem dX2_worth_43 : decode cX2_worth 43 = .ok (.ireturn, 1) := by decide +kernel
theorem dX2_worth_44 : decode cX2_worth 44 = .ok (.aload_n 0, 1) := by decide +kernel
theorem dX2_worth_45 : decode cX2_worth 45 = .ok (.invokevirtual 181, 3) := by decide +kernel
theorem dX2_worth_48 : decode cX2_worth 48 = .ok (.aload_n 0, 1) := by decide +kernel
theorem dX2_worth_49 : decode cX2_worth 49 = .ok (.sipush 4095, 3) := by decide +kernel
theorem dX2_worth_52 : decode cX2_worth 52 = .ok (.iload_n 3, 1) := by decide +kernel
theorem dX2_worth_53 : decode cX2_worth 53 = .ok (.iload 4, 2) := by decide +kernel
theorem dX2_worth_55 : decode cX2_worth 55 = .ok (.invokevirtual 211, 3) := by decide +kernel
theorem dX2_worth_58 : decode cX2_worth 58 = .ok (.aload_n 0, 1) := by decide +kernel
theorem dX2_worth_59 : decode cX2_worth 59 = .ok (.iload_n 1, 1) := by decide +kernel
theorem dX2_worth_60 : decode cX2_worth 60 = .ok (.iload_n 2, 1) := by decide +kernel
theorem dX2_worth_61 : decode cX2_worth 61 = .ok (.invokestatic 204, 3) := by decide +kernel
theorem dX2_worth_64 : decode cX2_worth 64 = .ok (.iload_n 3, 1) := by decide +kernel
theorem dX2_worth_65 : decode cX2_worth 65 = .ok (.iload 4, 2) := by decide +kernel
theorem dX2_worth_67 : decode cX2_worth 67 = .ok (.invokevirtual 207, 3) := by decide +kernel
theorem dX2_worth_70 : decode cX2_worth 70 = .ok (.isub, 1) := by decide +kernel
theorem dX2_worth_71 : decode cX2_worth 71 = .ok (.ireturn, 1) := by decide +kernel
set_option maxRecDepth 20000 in
theorem ggX2_went_X2_isTry : GoodIn wsX2_went wsX2_isTry := goodIn_r _ [9] (by decide +kernel) (by decide +kernel)
set_option maxRecDepth 20000 in
theorem gX2_went_X2_isTry : GoodIn wsX2_went (va_wsS RX2 103 yX2_isTry wsX2_isTry) := goodIn_app (goodIn_of _ (by decide +kernel)) ggX2_went_X2_isTry
set_option maxRecDepth 20000 in
theorem ggX2_went_X2_isEither : GoodIn wsX2_went wsX2_isEither := goodIn_r _ [12] (by decide +kernel) (by decide +kernel)
set_option maxRecDepth 20000 in
theorem gX2_went_X2_isEither : GoodIn wsX2_went (va_wsS RX2 156 yX2_isEither wsX2_isEither) := goodIn_app (goodIn_of _ (by decide +kernel)) ggX2_went_X2_isEither
set_option maxRecDepth 20000 in
theorem ggX2_went_X2_refuse : GoodIn wsX2_went wsX2_refuse := goodIn_r _ [16, 17, 18, 19, 8, 20, 21, 22, 23, 63, 64, 65, 66, 67, 68, 69, 70, 71, 72, 73, 74] (by decide +kernel) (by decide +kernel)
set_option maxRecDepth 20000 in
theorem gX2_went_X2_refuse : GoodIn wsX2_went (wsV RX2 56 RX2 yX2_refuse wsX2_refuse) := goodIn_app (goodIn_of _ (by decide +kernel)) ggX2_went_X2_refuse
set_option maxRecDepth 20000 in
theorem ggX2_went_X0_copyFrom : GoodIn wsX2_went wsX0_copyFrom := goodIn_r _ [28, 29, 30, 31, 32, 33, 34, 35, 36, 37, 38, 39, 40, 41, 42, 43, 44, 75, 76, 77, 78, 79, 80, 81, 82, 83, 84, 85, 86] (by decide +kernel) (by decide +kernel)
set_option maxRecDepth 20000 in
theorem gX2_went_X0_copyFrom : GoodIn wsX2_went (wsV RX2 152 RX0 yX0_copyFrom wsX0_copyFrom) := goodIn_app (goodIn_of _ (by decide +kernel)) ggX2_went_X0_copyFrom
set_option maxRecDepth 20000 in
theorem ggX2_went_X0_thickestNow : GoodIn wsX2_went wsX0_thickestNow := goodIn_r _ [48, 35, 49, 50, 51, 52, 53, 54, 55, 27, 56, 29, 34, 39, 40, 42, 19, 8, 20, 57, 58, 59, 75, 76, 77, 78, 79, 80, 81, 82, 83, 84, 85, 86] (by decide +kernel) (by decide +kernel)
set_option maxRecDepth 20000 in
theorem gX2_went_X0_thickestNow : GoodIn wsX2_went (wsV RX2 217 RX0 yX0_thickestNow wsX0_thickestNow) := goodIn_app (goodIn_of _ (by decide +kernel)) ggX2_went_X0_thickestNow
set_option maxRecDepth 20000 in
theorem ggX2_went_X2_allowance : GoodIn wsX2_went wsX2_allowance := goodIn_r _ [62] (by decide +kernel) (by decide +kernel)
set_option maxRecDepth 20000 in
theorem gX2_went_X2_allowance : GoodIn wsX2_went (va_wsS RX2 110 yX2_allowance wsX2_allowance) := goodIn_app (goodIn_of _ (by decide +kernel)) ggX2_went_X2_allowance
theorem dX2_went_0 : decode cX2_went 0 = .ok (.iload_n 1, 1) := by decide +kernel
theorem dX2_went_1 : decode cX2_went 1 = .ok (.invokestatic 103, 3) := by decide +kernel
theorem dX2_went_4 : decode cX2_went 4 = .ok (.ifCond .eq 10, 3) := by decide +kernel
theorem dX2_went_7 : decode cX2_went 7 = .ok (.iload_n 2, 1) := by decide +kernel
theorem dX2_went_8 : decode cX2_went 8 = .ok (.invokestatic 156, 3) := by decide +kernel
theorem dX2_went_11 : decode cX2_went 11 = .ok (.ifCond .ne 10, 3) := by decide +kernel
theorem dX2_went_14 : decode cX2_went 14 = .ok (.aload_n 0, 1) := by decide +kernel
theorem dX2_went_15 : decode cX2_went 15 = .ok (.bipush (-2), 2) := by decide +kernel
theorem dX2_went_17 : decode cX2_went 17 = .ok (.invokevirtual 56, 3) := by decide +kernel
theorem dX2_went_20 : decode cX2_went 20 = .ok (.ireturn, 1) := by decide +kernel
theorem dX2_went_21 : decode cX2_went 21 = .ok (.iconst 0, 1) := by decide +kernel
theorem dX2_went_22 : decode cX2_went 22 = .ok (.istore_n 3, 1) := by decide +kernel
theorem dX2_went_23 : decode cX2_went 23 = .ok (.bipush (-9), 2) := by decide +kernel
theorem dX2_went_25 : decode cX2_went 25 = .ok (.istore 4, 2) := by decide +kernel
theorem dX2_went_27 : decode cX2_went 27 = .ok (.aload_n 0, 1) := by decide +kernel
theorem dX2_went_28 : decode cX2_went 28 = .ok (.getfield 19, 3) := by decide +kernel
theorem dX2_went_31 : decode cX2_went 31 = .ok (.aload_n 0, 1) := by decide +kernel
theorem dX2_went_32 : decode cX2_went 32 = .ok (.getfield 10, 3) := by decide +kernel
theorem dX2_went_35 : decode cX2_went 35 = .ok (.invokevirtual 152, 3) := by decide +kernel
theorem dX2_went_38 : decode cX2_went 38 = .ok (.iconst 0, 1) := by decide +kernel
theorem dX2_went_39 : decode cX2_went 39 = .ok (.istore 5, 2) := by decide +kernel
theorem dX2_went_41 : decode cX2_went 41 = .ok (.iload 5, 2) := by decide +kernel
theorem dX2_went_43 : decode cX2_went 43 = .ok (.bipush 30, 2) := by decide +kernel
theorem dX2_went_45 : decode cX2_went 45 = .ok (.if_icmp .gt 54, 3) := by decide +kernel
theorem dX2_went_48 : decode cX2_went 48 = .ok (.aload_n 0, 1) := by decide +kernel
theorem dX2_went_49 : decode cX2_went 49 = .ok (.getfield 19, 3) := by decide +kernel
theorem dX2_went_52 : decode cX2_went 52 = .ok (.iload 5, 2) := by decide +kernel
theorem dX2_went_54 : decode cX2_went 54 = .ok (.putfield 214, 3) := by decide +kernel
theorem dX2_went_57 : decode cX2_went 57 = .ok (.aload_n 0, 1) := by decide +kernel
theorem dX2_went_58 : decode cX2_went 58 = .ok (.getfield 19, 3) := by decide +kernel
theorem dX2_went_61 : decode cX2_went 61 = .ok (.invokevirtual 217, 3) := by decide +kernel
theorem dX2_went_64 : decode cX2_went 64 = .ok (.aload_n 0, 1) := by decide +kernel
theorem dX2_went_65 : decode cX2_went 65 = .ok (.getfield 19, 3) := by decide +kernel
theorem dX2_went_68 : decode cX2_went 68 = .ok (.getfield 146, 3) := by decide +kernel
theorem dX2_went_71 : decode cX2_went 71 = .ok (.iload_n 1, 1) := by decide +kernel
theorem dX2_went_72 : decode cX2_went 72 = .ok (.aload_n 0, 1) := by decide +kernel
theorem dX2_went_73 : decode cX2_went 73 = .ok (.getfield 19, 3) := by decide +kernel
theorem dX2_went_76 : decode cX2_went 76 = .ok (.getfield 107, 3) := by decide +kernel
theorem dX2_went_79 : decode cX2_went 79 = .ok (.invokestatic 110, 3) := by decide +kernel
theorem dX2_went_82 : decode cX2_went 82 = .ok (.iadd, 1) := by decide +kernel
theorem dX2_went_83 : decode cX2_went 83 = .ok (.if_icmp .gt 10, 3) := by decide +kernel
theorem dX2_went_86 : decode cX2_went 86 = .ok (.iinc 3 1, 3) := by decide +kernel
theorem dX2_went_89 : decode cX2_went 89 = .ok (.iload 5, 2) := by decide +kernel
theorem dX2_went_91 : decode cX2_went 91 = .ok (.istore 4, 2) := by decide +kernel
theorem dX2_went_93 : decode cX2_went 93 = .ok (.iinc 5 1, 3) := by decide +kernel
theorem dX2_went_96 : decode cX2_went 96 = .ok (.goto (-55), 3) := by decide +kernel
theorem dX2_went_99 : decode cX2_went 99 = .ok (.iload_n 2, 1) := by decide +kernel
theorem dX2_went_100 : decode cX2_went 100 = .ok (.ifCond .ne 7, 3) := by decide +kernel
theorem dX2_went_103 : decode cX2_went 103 = .ok (.iload_n 3, 1) := by decide +kernel
theorem dX2_went_104 : decode cX2_went 104 = .ok (.goto 5, 3) := by decide +kernel
theorem dX2_went_107 : decode cX2_went 107 = .ok (.iload 4, 2) := by decide +kernel
theorem dX2_went_109 : decode cX2_went 109 = .ok (.ireturn, 1) := by decide +kernel
set_option maxRecDepth 20000 in
theorem ggX2_feel_X2_isEither : GoodIn wsX2_feel wsX2_isEither := goodIn_r _ [15] (by decide +kernel) (by decide +kernel)
set_option maxRecDepth 20000 in
theorem gX2_feel_X2_isEither : GoodIn wsX2_feel (va_wsS RX2 156 yX2_isEither wsX2_isEither) := goodIn_app (goodIn_of _ (by decide +kernel)) ggX2_feel_X2_isEither
set_option maxRecDepth 20000 in
theorem ggX2_feel_X2_refuse : GoodIn wsX2_feel wsX2_refuse := goodIn_r _ [19, 20, 21, 22, 14, 23, 24, 25, 26, 81, 82, 83, 84, 85, 86, 87, 88, 89, 90, 91, 92] (by decide +kernel) (by decide +kernel)
set_option maxRecDepth 20000 in
theorem gX2_feel_X2_refuse : GoodIn wsX2_feel (wsV RX2 56 RX2 yX2_refuse wsX2_refuse) := goodIn_app (goodIn_of _ (by decide +kernel)) ggX2_feel_X2_refuse
set_option maxRecDepth 20000 in
theorem ggX2_feel_X0_isOff : GoodIn wsX2_feel wsX0_isOff := goodIn_r _ [31, 32, 33, 93, 94, 95, 96, 97, 98, 99, 100, 101, 102, 103, 104] (by decide +kernel) (by decide +kernel)
set_option maxRecDepth 20000 in
theorem gX2_feel_X0_isOff : GoodIn wsX2_feel (wsV RX2 142 RX0 yX0_isOff wsX0_isOff) := goodIn_app (goodIn_of _ (by decide +kernel)) ggX2_feel_X0_isOff
set_option maxRecDepth 20000 in
theorem ggX2_feel_X2_numbersTellTries : GoodIn wsX2_feel wsX2_numbersTellTries := goodIn_r _ [37, 3, 4, 21, 22, 14, 23, 38, 39, 40, 81, 82, 83, 84, 85, 86, 87, 88, 89, 90, 91, 92] (by decide +kernel) (by decide +kernel)
set_option maxRecDepth 20000 in
theorem gX2_feel_X2_numbersTellTries : GoodIn wsX2_feel (wsV RX2 220 RX2 yX2_numbersTellTries wsX2_numbersTellTries) := goodIn_app (goodIn_of _ (by decide +kernel)) ggX2_feel_X2_numbersTellTries
set_option maxRecDepth 20000 in
theorem ggX2_feel_X0_copyFrom : GoodIn wsX2_feel wsX0_copyFrom := goodIn_r _ [44, 45, 46, 47, 48, 49, 50, 33, 51, 52, 32, 53, 54, 55, 56, 57, 58, 93, 94, 95, 96, 97, 98, 99, 100, 101, 102, 103, 104] (by decide +kernel) (by decide +kernel)
set_option maxRecDepth 20000 in
theorem gX2_feel_X0_copyFrom : GoodIn wsX2_feel (wsV RX2 152 RX0 yX0_copyFrom wsX0_copyFrom) := goodIn_app (goodIn_of _ (by decide +kernel)) ggX2_feel_X0_copyFrom
set_option maxRecDepth 20000 in
theorem ggX2_feel_X2_at : GoodIn wsX2_feel wsX2_at := goodIn_r _ [23] (by decide +kernel) (by decide +kernel)
set_option maxRecDepth 20000 in
theorem gX2_feel_X2_at : GoodIn wsX2_feel (va_wsS RX2 77 yX2_at wsX2_at) := goodIn_app (goodIn_of _ (by decide +kernel)) ggX2_feel_X2_at
set_option maxRecDepth 20000 in
theorem ggX2_feel_X0_thickestThatGoes : GoodIn wsX2_feel wsX0_thickestThatGoes := goodIn_r _ [62, 50, 32, 25, 14, 26, 63, 64, 65, 30, 66, 45, 53, 56, 51, 52, 67, 28, 29, 31, 33, 22, 23, 68, 69, 70, 71, 54, 72, 6, 7, 8, 73, 74, 9, 10, 11, 75, 76, 93, 94, 95, 96, 97, 98, 99, 100, 101, 102, 103, 104] (by decide +kernel) (by decide +kernel)
set_option maxRecDepth 20000 in
theorem gX2_feel_X0_thickestThatGoes : GoodIn wsX2_feel (wsV RX2 223 RX0 yX0_thickestThatGoes wsX0_thickestThatGoes) := goodIn_app (goodIn_of _ (by decide +kernel)) ggX2_feel_X0_thickestThatGoes
set_option maxRecDepth 20000 in
theorem ggX2_feel_X0_strain : GoodIn wsX2_feel wsX0_strain := goodIn_r _ [80, 54, 53, 72, 6, 7, 8, 58, 57, 55, 68, 69, 70, 30, 71, 22, 14, 23, 93, 94, 95, 96, 97, 98, 99, 100, 101, 102, 103, 104] (by decide +kernel) (by decide +kernel)
set_option maxRecDepth 20000 in
theorem gX2_feel_X0_strain : GoodIn wsX2_feel (wsV RX2 226 RX0 yX0_strain wsX0_strain) := goodIn_app (goodIn_of _ (by decide +kernel)) ggX2_feel_X0_strain
theorem dX2_feel_0 : decode cX2_feel 0 = .ok (.iload_n 1, 1) := by decide +kernel
theorem dX2_feel_1 : decode cX2_feel 1 = .ok (.invokestatic 156, 3) := by decide +kernel
theorem dX2_feel_4 : decode cX2_feel 4 = .ok (.ifCond .ne 10, 3) := by decide +kernel
theorem dX2_feel_7 : decode cX2_feel 7 = .ok (.aload_n 0, 1) := by decide +kernel
theorem dX2_feel_8 : decode cX2_feel 8 = .ok (.bipush (-2), 2) := by decide +kernel
theorem dX2_feel_10 : decode cX2_feel 10 = .ok (.invokevirtual 56, 3) := by decide +kernel
theorem dX2_feel_13 : decode cX2_feel 13 = .ok (.ireturn, 1) := by decide +kernel
theorem dX2_feel_14 : decode cX2_feel 14 = .ok (.aload_n 0, 1) := by decide +kernel
theorem dX2_feel_15 : decode cX2_feel 15 = .ok (.getfield 10, 3) := by decide +kernel
theorem dX2_feel_18 : decode cX2_feel 18 = .ok (.invokevirtual 142, 3) := by decide +kernel
theorem dX2_feel_21 : decode cX2_feel 21 = .ok (.ifCond .ne 10, 3) := by decide +kernel
theorem dX2_feel_24 : decode cX2_feel 24 = .ok (.aload_n 0, 1) := by decide +kernel
theorem dX2_feel_25 : decode cX2_feel 25 = .ok (.invokevirtual 220, 3) := by decide +kernel
theorem dX2_feel_28 : decode cX2_feel 28 = .ok (.ifCond .ne 10, 3) := by decide +kernel
theorem dX2_feel_31 : decode cX2_feel 31 = .ok (.aload_n 0, 1) := by decide +kernel
theorem dX2_feel_32 : decode cX2_feel 32 = .ok (.bipush (-3), 2) := by decide +kernel
theorem dX2_feel_34 : decode cX2_feel 34 = .ok (.invokevirtual 56, 3) := by decide +kernel
theorem dX2_feel_37 : decode cX2_feel 37 = .ok (.ireturn, 1) := by decide +kernel
theorem dX2_feel_38 : decode cX2_feel 38 = .ok (.iconst 0, 1) := by decide +kernel
theorem dX2_feel_39 : decode cX2_feel 39 = .ok (.istore_n 2, 1) := by decide +kernel
theorem dX2_feel_40 : decode cX2_feel 40 = .ok (.sipush 240, 3) := by decide +kernel
theorem dX2_feel_43 : decode cX2_feel 43 = .ok (.istore_n 3, 1) := by decide +kernel
theorem dX2_feel_44 : decode cX2_feel 44 = .ok (.aload_n 0, 1) := by decide +kernel
theorem dX2_feel_45 : decode cX2_feel 45 = .ok (.getfield 19, 3) := by decide +kernel
theorem dX2_feel_48 : decode cX2_feel 48 = .ok (.aload_n 0, 1) := by decide +kernel
theorem dX2_feel_49 : decode cX2_feel 49 = .ok (.getfield 10, 3) := by decide +kernel
theorem dX2_feel_52 : decode cX2_feel 52 = .ok (.invokevirtual 152, 3) := by decide +kernel
theorem dX2_feel_55 : decode cX2_feel 55 = .ok (.iconst 0, 1) := by decide +kernel
theorem dX2_feel_56 : decode cX2_feel 56 = .ok (.istore 4, 2) := by decide +kernel
theorem dX2_feel_58 : decode cX2_feel 58 = .ok (.iload 4, 2) := by decide +kernel
theorem dX2_feel_60 : decode cX2_feel 60 = .ok (.iconst 1, 1) := by decide +kernel
theorem dX2_feel_61 : decode cX2_feel 61 = .ok (.iadd, 1) := by decide +kernel
theorem dX2_feel_62 : decode cX2_feel 62 = .ok (.aload_n 0, 1) := by decide +kernel
theorem dX2_feel_63 : decode cX2_feel 63 = .ok (.getfield 46, 3) := by decide +kernel
theorem dX2_feel_66 : decode cX2_feel 66 = .ok (.if_icmp .ge 74, 3) := by decide +kernel
theorem dX2_feel_69 : decode cX2_feel 69 = .ok (.aload_n 0, 1) := by decide +kernel
theorem dX2_feel_70 : decode cX2_feel 70 = .ok (.getfield 33, 3) := by decide +kernel
theorem dX2_feel_73 : decode cX2_feel 73 = .ok (.iload 4, 2) := by decide +kernel
theorem dX2_feel_75 : decode cX2_feel 75 = .ok (.invokestatic 77, 3) := by decide +kernel
theorem dX2_feel_78 : decode cX2_feel 78 = .ok (.istore 5, 2) := by decide +kernel
theorem dX2_feel_80 : decode cX2_feel 80 = .ok (.aload_n 0, 1) := by decide +kernel
theorem dX2_feel_81 : decode cX2_feel 81 = .ok (.getfield 19, 3) := by decide +kernel
theorem dX2_feel_84 : decode cX2_feel 84 = .ok (.iload 5, 2) := by decide +kernel
theorem dX2_feel_86 : decode cX2_feel 86 = .ok (.invokevirtual 223, 3) := by decide +kernel
theorem dX2_feel_89 : decode cX2_feel 89 = .ok (.istore 6, 2) := by decide +kernel
theorem dX2_feel_91 : decode cX2_feel 91 = .ok (.aload_n 0, 1) := by decide +kernel
theorem dX2_feel_92 : decode cX2_feel 92 = .ok (.getfield 33, 3) := by decide +kernel
theorem dX2_feel_95 : decode cX2_feel 95 = .ok (.iload 4, 2) := by decide +kernel
theorem dX2_feel_97 : decode cX2_feel 97 = .ok (.iconst 1, 1) := by decide +kernel
theorem dX2_feel_98 : decode cX2_feel 98 = .ok (.iadd, 1) := by decide +kernel
theorem dX2_feel_99 : decode cX2_feel 99 = .ok (.invokestatic 77, 3) := by decide +kernel
theorem dX2_feel_102 : decode cX2_feel 102 = .ok (.iconst 1, 1) := by decide +kernel
theorem dX2_feel_103 : decode cX2_feel 103 = .ok (.if_icmp .ne 13, 3) := by decide +kernel
theorem dX2_feel_106 : decode cX2_feel 106 = .ok (.iload_n 3, 1) := by decide +kernel
theorem dX2_feel_107 : decode cX2_feel 107 = .ok (.iload 6, 2) := by decide +kernel
theorem dX2_feel_109 : decode cX2_feel 109 = .ok (.invokestatic 170, 3) := by decide +kernel
theorem dX2_feel_112 : decode cX2_feel 112 = .ok (.istore_n 3, 1) := by decide +kernel
theorem dX2_feel_113 : decode cX2_feel 113 = .ok (.goto 12, 3) := by decide +kernel
theorem dX2_feel_116 : decode cX2_feel 116 = .ok (.iload_n 2, 1) := by decide +kernel
theorem dX2_feel_117 : decode cX2_feel 117 = .ok (.iload 6, 2) := by decide +kernel
theorem dX2_feel_119 : decode cX2_feel 119 = .ok (.iconst 1, 1) := by decide +kernel
theorem dX2_feel_120 : decode cX2_feel 120 = .ok (.iadd, 1) := by decide +kernel
theorem dX2_feel_121 : decode cX2_feel 121 = .ok (.invokestatic 175, 3) := by decide +kernel
theorem dX2_feel_124 : decode cX2_feel 124 = .ok (.istore_n 2, 1) := by decide +kernel
theorem dX2_feel_125 : decode cX2_feel 125 = .ok (.aload_n 0, 1) := by decide +kernel
theorem dX2_feel_126 : decode cX2_feel 126 = .ok (.getfield 19, 3) := by decide +kernel
theorem dX2_feel_129 : decode cX2_feel 129 = .ok (.iload 5, 2) := by decide +kernel
theorem dX2_feel_131 : decode cX2_feel 131 = .ok (.invokevirtual 226, 3) := by decide +kernel
theorem dX2_feel_134 : decode cX2_feel 134 = .ok (.iinc 4 2, 3) := by decide +kernel
theorem dX2_feel_137 : decode cX2_feel 137 = .ok (.goto (-79), 3) := by decide +kernel
theorem dX2_feel_140 : decode cX2_feel 140 = .ok (.iload_n 2, 1) := by decide +kernel
theorem dX2_feel_141 : decode cX2_feel 141 = .ok (.iload_n 3, 1) := by decide +kernel
theorem dX2_feel_142 : decode cX2_feel 142 = .ok (.if_icmp .le 6, 3) := by decide +kernel
theorem dX2_feel_145 : decode cX2_feel 145 = .ok (.bipush (-9), 2) := by decide +kernel
theorem dX2_feel_147 : decode cX2_feel 147 = .ok (.ireturn, 1) := by decide +kernel
theorem dX2_feel_148 : decode cX2_feel 148 = .ok (.iload_n 1, 1) := by decide +kernel
theorem dX2_feel_149 : decode cX2_feel 149 = .ok (.ifCond .ne 7, 3) := by decide +kernel
theorem dX2_feel_152 : decode cX2_feel 152 = .ok (.iload_n 2, 1) := by decide +kernel
theorem dX2_feel_153 : decode cX2_feel 153 = .ok (.goto 4, 3) := by decide +kernel
theorem dX2_feel_156 : decode cX2_feel 156 = .ok (.iload_n 3, 1) := by decide +kernel
theorem dX2_feel_157 : decode cX2_feel 157 = .ok (.ireturn, 1) := by decide +kernel
set_option maxRecDepth 20000 in
theorem ggX2_row_X2_refuse : GoodIn wsX2_row wsX2_refuse := goodIn_r _ [7, 8, 9, 10, 6, 11, 12, 13, 14, 15, 16, 17, 18, 19, 20, 21, 22, 23, 24, 25, 26] (by decide +kernel) (by decide +kernel)
set_option maxRecDepth 20000 in
theorem gX2_row_X2_refuse : GoodIn wsX2_row (wsV RX2 56 RX2 yX2_refuse wsX2_refuse) := goodIn_app (goodIn_of _ (by decide +kernel)) ggX2_row_X2_refuse
set_option maxRecDepth 20000 in
theorem ggX2_row_X2_put : GoodIn wsX2_row wsX2_put := goodIn_r _ [14] (by decide +kernel) (by decide +kernel)
set_option maxRecDepth 20000 in
theorem gX2_row_X2_put : GoodIn wsX2_row (va_wsS RX2 60 yX2_put wsX2_put) := goodIn_app (goodIn_of _ (by decide +kernel)) ggX2_row_X2_put
theorem dX2_row_0 : decode cX2_row 0 = .ok (.iload_n 1, 1) := by decide +kernel
theorem dX2_row_1 : decode cX2_row 1 = .ok (.ifCond .ge 10, 3) := by decide +kernel
theorem dX2_row_4 : decode cX2_row 4 = .ok (.aload_n 0, 1) := by decide +kernel
theorem dX2_row_5 : decode cX2_row 5 = .ok (.bipush (-4), 2) := by decide +kernel
theorem dX2_row_7 : decode cX2_row 7 = .ok (.invokevirtual 56, 3) := by decide +kernel
theorem dX2_row_10 : decode cX2_row 10 = .ok (.ireturn, 1) := by decide +kernel
theorem dX2_row_11 : decode cX2_row 11 = .ok (.iload_n 1, 1) := by decide +kernel
theorem dX2_row_12 : decode cX2_row 12 = .ok (.bipush 9, 2) := by decide +kernel
theorem dX2_row_14 : decode cX2_row 14 = .ok (.if_icmp .gt 12, 3) := by decide +kernel
theorem dX2_row_17 : decode cX2_row 17 = .ok (.aload_n 0, 1) := by decide +kernel
theorem dX2_row_18 : decode cX2_row 18 = .ok (.getfield 46, 3) := by decide +kernel
theorem dX2_row_21 : decode cX2_row 21 = .ok (.bipush 12, 2) := by decide +kernel
theorem dX2_row_23 : decode cX2_row 23 = .ok (.if_icmp .lt 10, 3) := by decide +kernel
theorem dX2_row_26 : decode cX2_row 26 = .ok (.aload_n 0, 1) := by decide +kernel
theorem dX2_row_27 : decode cX2_row 27 = .ok (.bipush (-6), 2) := by decide +kernel
theorem dX2_row_29 : decode cX2_row 29 = .ok (.invokevirtual 56, 3) := by decide +kernel
theorem dX2_row_32 : decode cX2_row 32 = .ok (.ireturn, 1) := by decide +kernel
theorem dX2_row_33 : decode cX2_row 33 = .ok (.aload_n 0, 1) := by decide +kernel
theorem dX2_row_34 : decode cX2_row 34 = .ok (.getfield 33, 3) := by decide +kernel
theorem dX2_row_37 : decode cX2_row 37 = .ok (.aload_n 0, 1) := by decide +kernel
theorem dX2_row_38 : decode cX2_row 38 = .ok (.getfield 46, 3) := by decide +kernel
theorem dX2_row_41 : decode cX2_row 41 = .ok (.iload_n 1, 1) := by decide +kernel
theorem dX2_row_42 : decode cX2_row 42 = .ok (.invokestatic 60, 3) := by decide +kernel
theorem dX2_row_45 : decode cX2_row 45 = .ok (.aload_n 0, 1) := by decide +kernel
theorem dX2_row_46 : decode cX2_row 46 = .ok (.dup, 1) := by decide +kernel
theorem dX2_row_47 : decode cX2_row 47 = .ok (.getfield 46, 3) := by decide +kernel
theorem dX2_row_50 : decode cX2_row 50 = .ok (.iconst 1, 1) := by decide +kernel
theorem dX2_row_51 : decode cX2_row 51 = .ok (.iadd, 1) := by decide +kernel
theorem dX2_row_52 : decode cX2_row 52 = .ok (.putfield 46, 3) := by decide +kernel
theorem dX2_row_55 : decode cX2_row 55 = .ok (.aload_n 0, 1) := by decide +kernel
theorem dX2_row_56 : decode cX2_row 56 = .ok (.getfield 46, 3) := by decide +kernel
theorem dX2_row_59 : decode cX2_row 59 = .ok (.ireturn, 1) := by decide +kernel
set_option maxRecDepth 20000 in
theorem ggX2_judge_X0_isOff : GoodIn wsX2_judge wsX0_isOff := goodIn_r _ [9, 10, 11, 85, 86, 87, 88, 89, 90, 91, 92, 93, 94, 95, 96] (by decide +kernel) (by decide +kernel)
set_option maxRecDepth 20000 in
theorem gX2_judge_X0_isOff : GoodIn wsX2_judge (wsV RX2 142 RX0 yX0_isOff wsX0_isOff) := goodIn_app (goodIn_of _ (by decide +kernel)) ggX2_judge_X0_isOff
set_option maxRecDepth 20000 in
theorem ggX2_judge_X0_copyFrom : GoodIn wsX2_judge wsX0_copyFrom := goodIn_r _ [15, 16, 17, 18, 19, 20, 21, 11, 22, 23, 10, 24, 25, 26, 27, 28, 29, 85, 86, 87, 88, 89, 90, 91, 92, 93, 94, 95, 96] (by decide +kernel) (by decide +kernel)
set_option maxRecDepth 20000 in
theorem gX2_judge_X0_copyFrom : GoodIn wsX2_judge (wsV RX2 152 RX0 yX0_copyFrom wsX0_copyFrom) := goodIn_app (goodIn_of _ (by decide +kernel)) ggX2_judge_X0_copyFrom
set_option maxRecDepth 20000 in
theorem ggX2_judge_X2_at : GoodIn wsX2_judge wsX2_at := goodIn_r _ [33] (by decide +kernel) (by decide +kernel)
set_option maxRecDepth 20000 in
theorem gX2_judge_X2_at : GoodIn wsX2_judge (va_wsS RX2 77 yX2_at wsX2_at) := goodIn_app (goodIn_of _ (by decide +kernel)) ggX2_judge_X2_at
set_option maxRecDepth 20000 in
theorem ggX2_judge_X0_move : GoodIn wsX2_judge wsX0_move := goodIn_r _ [37, 38, 32, 39, 40, 41, 42, 8, 43, 10, 44, 45, 46, 47, 16, 21, 24, 27, 22, 23, 48, 6, 7, 9, 11, 31, 33, 49, 50, 51, 52, 25, 53, 54, 55, 56, 57, 58, 59, 60, 61, 62, 63, 64, 65, 66, 67, 29, 28, 26, 68, 69, 70, 71, 72, 85, 86, 87, 88, 89, 90, 91, 92, 93, 94, 95, 96] (by decide +kernel) (by decide +kernel)
set_option maxRecDepth 20000 in
theorem gX2_judge_X0_move : GoodIn wsX2_judge (wsV RX2 229 RX0 yX0_move wsX0_move) := goodIn_app (goodIn_of _ (by decide +kernel)) ggX2_judge_X0_move
theorem dX2_judge_0 : decode cX2_judge 0 = .ok (.aload_n 0, 1) := by decide +kernel
theorem dX2_judge_1 : decode cX2_judge 1 = .ok (.getfield 46, 3) := by decide +kernel
theorem dX2_judge_4 : decode cX2_judge 4 = .ok (.istore_n 1, 1) := by decide +kernel
theorem dX2_judge_5 : decode cX2_judge 5 = .ok (.aload_n 0, 1) := by decide +kernel
theorem dX2_judge_6 : decode cX2_judge 6 = .ok (.iconst 0, 1) := by decide +kernel
theorem dX2_judge_7 : decode cX2_judge 7 = .ok (.putfield 46, 3) := by decide +kernel
theorem dX2_judge_10 : decode cX2_judge 10 = .ok (.aload_n 0, 1) := by decide +kernel
theorem dX2_judge_11 : decode cX2_judge 11 = .ok (.getfield 10, 3) := by decide +kernel
theorem dX2_judge_14 : decode cX2_judge 14 = .ok (.invokevirtual 142, 3) := by decide +kernel
theorem dX2_judge_17 : decode cX2_judge 17 = .ok (.ifCond .eq 6, 3) := by decide +kernel
theorem dX2_judge_20 : decode cX2_judge 20 = .ok (.bipush (-9), 2) := by decide +kernel
theorem dX2_judge_22 : decode cX2_judge 22 = .ok (.ireturn, 1) := by decide +kernel
theorem dX2_judge_23 : decode cX2_judge 23 = .ok (.aload_n 0, 1) := by decide +kernel
theorem dX2_judge_24 : decode cX2_judge 24 = .ok (.getfield 19, 3) := by decide +kernel
theorem dX2_judge_27 : decode cX2_judge 27 = .ok (.aload_n 0, 1) := by decide +kernel
theorem dX2_judge_28 : decode cX2_judge 28 = .ok (.getfield 10, 3) := by decide +kernel
theorem dX2_judge_31 : decode cX2_judge 31 = .ok (.invokevirtual 152, 3) := by decide +kernel
theorem dX2_judge_34 : decode cX2_judge 34 = .ok (.iconst 0, 1) := by decide +kernel
theorem dX2_judge_35 : decode cX2_judge 35 = .ok (.istore_n 2, 1) := by decide +kernel
theorem dX2_judge_36 : decode cX2_judge 36 = .ok (.iload_n 2, 1) := by decide +kernel
theorem dX2_judge_37 : decode cX2_judge 37 = .ok (.iload_n 1, 1) := by decide +kernel
theorem dX2_judge_38 : decode cX2_judge 38 = .ok (.if_icmp .ge 36, 3) := by decide +kernel
theorem dX2_judge_41 : decode cX2_judge 41 = .ok (.aload_n 0, 1) := by decide +kernel
theorem dX2_judge_42 : decode cX2_judge 42 = .ok (.getfield 19, 3) := by decide +kernel
theorem dX2_judge_45 : decode cX2_judge 45 = .ok (.aload_n 0, 1) := by decide +kernel
theorem dX2_judge_46 : decode cX2_judge 46 = .ok (.getfield 33, 3) := by decide +kernel
theorem dX2_judge_49 : decode cX2_judge 49 = .ok (.iload_n 2, 1) := by decide +kernel
theorem dX2_judge_50 : decode cX2_judge 50 = .ok (.invokestatic 77, 3) := by decide +kernel
theorem dX2_judge_53 : decode cX2_judge 53 = .ok (.invokevirtual 229, 3) := by decide +kernel
theorem dX2_judge_56 : decode cX2_judge 56 = .ok (.aload_n 0, 1) := by decide +kernel
theorem dX2_judge_57 : decode cX2_judge 57 = .ok (.getfield 19, 3) := by decide +kernel
theorem dX2_judge_60 : decode cX2_judge 60 = .ok (.invokevirtual 142, 3) := by decide +kernel
theorem dX2_judge_63 : decode cX2_judge 63 = .ok (.ifCond .eq 5, 3) := by decide +kernel
theorem dX2_judge_66 : decode cX2_judge 66 = .ok (.iload_n 2, 1) := by decide +kernel
theorem dX2_judge_67 : decode cX2_judge 67 = .ok (.ireturn, 1) := by decide +kernel
theorem dX2_judge_68 : decode cX2_judge 68 = .ok (.iinc 2 1, 3) := by decide +kernel
theorem dX2_judge_71 : decode cX2_judge 71 = .ok (.goto (-35), 3) := by decide +kernel
theorem dX2_judge_74 : decode cX2_judge 74 = .ok (.bipush (-9), 2) := by decide +kernel
theorem dX2_judge_76 : decode cX2_judge 76 = .ok (.ireturn, 1) := by decide +kernel
set_option maxRecDepth 20000 in
theorem ggX2_lots_X2_refuse : GoodIn wsX2_lots wsX2_refuse := goodIn_r _ [6, 7, 8, 9, 5, 10, 11, 12, 13, 82, 83, 84, 85, 86, 87, 88, 89, 90, 91, 92, 93] (by decide +kernel) (by decide +kernel)
set_option maxRecDepth 20000 in
theorem gX2_lots_X2_refuse : GoodIn wsX2_lots (wsV RX2 56 RX2 yX2_refuse wsX2_refuse) := goodIn_app (goodIn_of _ (by decide +kernel)) ggX2_lots_X2_refuse
set_option maxRecDepth 20000 in
theorem ggX2_lots_X2_eveningHarm : GoodIn wsX2_lots wsX2_eveningHarm := goodIn_r _ [17, 18, 19, 20, 21, 22, 23, 24, 25, 26, 27, 28, 29, 30, 31, 32, 33, 34, 35, 36, 37, 38, 39, 40, 41, 42, 43, 44, 45, 5, 46, 1, 47, 48, 49, 50, 51, 52, 53, 54, 55, 56, 57, 58, 59, 60, 61, 62, 9, 10, 63, 64, 65, 66, 67, 68, 69, 70, 71, 72, 73, 74, 75, 76, 77, 78, 79, 80, 81, 82, 83, 84, 85, 86, 87, 88, 89, 90, 91, 92, 93, 94, 95, 96, 97, 98, 99, 100, 101, 102, 103, 104, 105] (by decide +kernel) (by decide +kernel)
set_option maxRecDepth 20000 in
theorem gX2_lots_X2_eveningHarm : GoodIn wsX2_lots (wsV RX2 232 RX2 yX2_eveningHarm wsX2_eveningHarm) := goodIn_app (goodIn_of _ (by decide +kernel)) ggX2_lots_X2_eveningHarm
theorem dX2_lots_0 : decode cX2_lots 0 = .ok (.iload_n 1, 1) := by decide +kernel
theorem dX2_lots_1 : decode cX2_lots 1 = .ok (.iconst 1, 1) := by decide +kernel
theorem dX2_lots_2 : decode cX2_lots 2 = .ok (.if_icmp .ge 10, 3) := by decide +kernel
theorem dX2_lots_5 : decode cX2_lots 5 = .ok (.aload_n 0, 1) := by decide +kernel
theorem dX2_lots_6 : decode cX2_lots 6 = .ok (.bipush (-4), 2) := by decide +kernel
theorem dX2_lots_8 : decode cX2_lots 8 = .ok (.invokevirtual 56, 3) := by decide +kernel
theorem dX2_lots_11 : decode cX2_lots 11 = .ok (.ireturn, 1) := by decide +kernel
theorem dX2_lots_12 : decode cX2_lots 12 = .ok (.iload_n 1, 1) := by decide +kernel
theorem dX2_lots_13 : decode cX2_lots 13 = .ok (.bipush 20, 2) := by decide +kernel
theorem dX2_lots_15 : decode cX2_lots 15 = .ok (.if_icmp .le 10, 3) := by decide +kernel
theorem dX2_lots_18 : decode cX2_lots 18 = .ok (.aload_n 0, 1) := by decide +kernel
theorem dX2_lots_19 : decode cX2_lots 19 = .ok (.bipush (-6), 2) := by decide +kernel
theorem dX2_lots_21 : decode cX2_lots 21 = .ok (.invokevirtual 56, 3) := by decide +kernel
theorem dX2_lots_24 : decode cX2_lots 24 = .ok (.ireturn, 1) := by decide +kernel
theorem dX2_lots_25 : decode cX2_lots 25 = .ok (.aload_n 0, 1) := by decide +kernel
theorem dX2_lots_26 : decode cX2_lots 26 = .ok (.iload_n 2, 1) := by decide +kernel
theorem dX2_lots_27 : decode cX2_lots 27 = .ok (.putfield 53, 3) := by decide +kernel
theorem dX2_lots_30 : decode cX2_lots 30 = .ok (.iconst 0, 1) := by decide +kernel
theorem dX2_lots_31 : decode cX2_lots 31 = .ok (.istore_n 3, 1) := by decide +kernel
theorem dX2_lots_32 : decode cX2_lots 32 = .ok (.iconst 0, 1) := by decide +kernel
theorem dX2_lots_33 : decode cX2_lots 33 = .ok (.istore 4, 2) := by decide +kernel
theorem dX2_lots_35 : decode cX2_lots 35 = .ok (.iload 4, 2) := by decide +kernel
theorem dX2_lots_37 : decode cX2_lots 37 = .ok (.iload_n 1, 1) := by decide +kernel
theorem dX2_lots_38 : decode cX2_lots 38 = .ok (.if_icmp .ge 16, 3) := by decide +kernel
theorem dX2_lots_41 : decode cX2_lots 41 = .ok (.iload_n 3, 1) := by decide +kernel
theorem dX2_lots_42 : decode cX2_lots 42 = .ok (.aload_n 0, 1) := by decide +kernel
theorem dX2_lots_43 : decode cX2_lots 43 = .ok (.invokevirtual 232, 3) := by decide +kernel
theorem dX2_lots_46 : decode cX2_lots 46 = .ok (.iadd, 1) := by decide +kernel
theorem dX2_lots_47 : decode cX2_lots 47 = .ok (.istore_n 3, 1) := by decide +kernel
theorem dX2_lots_48 : decode cX2_lots 48 = .ok (.iinc 4 1, 3) := by decide +kernel
theorem dX2_lots_51 : decode cX2_lots 51 = .ok (.goto (-16), 3) := by decide +kernel
theorem dX2_lots_54 : decode cX2_lots 54 = .ok (.iload_n 3, 1) := by decide +kernel
theorem dX2_lots_55 : decode cX2_lots 55 = .ok (.ireturn, 1) := by decide +kernel
set_option maxRecDepth 20000 in
theorem ggX2_image_X0_copyFrom : GoodIn wsX2_image wsX0_copyFrom := goodIn_r _ [9, 10, 11, 12, 13, 14, 15, 16, 17, 18, 19, 20, 21, 22, 23, 24, 25, 38, 39, 40, 41, 42, 43, 44, 45, 46, 47, 48, 49] (by decide +kernel) (by decide +kernel)
set_option maxRecDepth 20000 in
theorem gX2_image_X0_copyFrom : GoodIn wsX2_image (wsV RX2 152 RX0 yX0_copyFrom wsX0_copyFrom) := goodIn_app (goodIn_of _ (by decide +kernel)) ggX2_image_X0_copyFrom
theorem dX2_image_0 : decode cX2_image 0 = .ok (.aload_n 0, 1) := by decide +kernel
theorem dX2_image_1 : decode cX2_image 1 = .ok (.getfield 16, 3) := by decide +kernel
theorem dX2_image_4 : decode cX2_image 4 = .ok (.aload_n 0, 1) := by decide +kernel
theorem dX2_image_5 : decode cX2_image 5 = .ok (.getfield 10, 3) := by decide +kernel
theorem dX2_image_8 : decode cX2_image 8 = .ok (.invokevirtual 152, 3) := by decide +kernel
theorem dX2_image_11 : decode cX2_image 11 = .ok (.aload_n 0, 1) := by decide +kernel
theorem dX2_image_12 : decode cX2_image 12 = .ok (.iconst 1, 1) := by decide +kernel
theorem dX2_image_13 : decode cX2_image 13 = .ok (.putfield 49, 3) := by decide +kernel
theorem dX2_image_16 : decode cX2_image 16 = .ok (.aload_n 0, 1) := by decide +kernel
theorem dX2_image_17 : decode cX2_image 17 = .ok (.getfield 10, 3) := by decide +kernel
theorem dX2_image_20 : decode cX2_image 20 = .ok (.getfield 136, 3) := by decide +kernel
theorem dX2_image_23 : decode cX2_image 23 = .ok (.ireturn, 1) := by decide +kernel
set_option maxRecDepth 20000 in
theorem ggX2_on_X2_refuse : GoodIn wsX2_on wsX2_refuse := goodIn_r _ [9, 10, 11, 12, 8, 13, 14, 15, 16, 38, 39, 40, 41, 42, 43, 44, 45, 46, 47, 48, 49] (by decide +kernel) (by decide +kernel)
set_option maxRecDepth 20000 in
theorem gX2_on_X2_refuse : GoodIn wsX2_on (wsV RX2 56 RX2 yX2_refuse wsX2_refuse) := goodIn_app (goodIn_of _ (by decide +kernel)) ggX2_on_X2_refuse
set_option maxRecDepth 20000 in
theorem ggX2_on_X0_copyFrom : GoodIn wsX2_on wsX0_copyFrom := goodIn_r _ [21, 22, 23, 24, 25, 26, 27, 28, 29, 30, 31, 32, 33, 34, 35, 36, 37, 50, 51, 52, 53, 54, 55, 56, 57, 58, 59, 60, 61] (by decide +kernel) (by decide +kernel)
set_option maxRecDepth 20000 in
theorem gX2_on_X0_copyFrom : GoodIn wsX2_on (wsV RX2 152 RX0 yX0_copyFrom wsX0_copyFrom) := goodIn_app (goodIn_of _ (by decide +kernel)) ggX2_on_X0_copyFrom
