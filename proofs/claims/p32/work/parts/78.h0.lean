/-! the names of the law's helpers -/
theorem dL_cell_0 : decode cL_cell 0 = .ok (.ldc 7, 2) := by decide +kernel
theorem dL_cell_2 : decode cL_cell 2 = .ok (.iload_n 1, 1) := by decide +kernel
theorem dL_cell_3 : decode cL_cell 3 = .ok (.aload_n 0, 1) := by decide +kernel
theorem dL_cell_4 : decode cL_cell 4 = .ok (.arraylength, 1) := by decide +kernel
theorem dL_cell_5 : decode cL_cell 5 = .ok (.if_icmp .ge 9, 3) := by decide +kernel
theorem dL_cell_8 : decode cL_cell 8 = .ok (.aload_n 0, 1) := by decide +kernel
theorem dL_cell_9 : decode cL_cell 9 = .ok (.iload_n 1, 1) := by decide +kernel
theorem dL_cell_10 : decode cL_cell 10 = .ok (.iaload, 1) := by decide +kernel
theorem dL_cell_11 : decode cL_cell 11 = .ok (.goto 4, 3) := by decide +kernel
theorem dL_cell_14 : decode cL_cell 14 = .ok (.iconst 0, 1) := by decide +kernel
theorem dL_cell_15 : decode cL_cell 15 = .ok (.sipush 1009, 3) := by decide +kernel
theorem dL_cell_18 : decode cL_cell 18 = .ok (.iload_n 1, 1) := by decide +kernel
theorem dL_cell_19 : decode cL_cell 19 = .ok (.imul, 1) := by decide +kernel
theorem dL_cell_20 : decode cL_cell 20 = .ok (.iadd, 1) := by decide +kernel
theorem dL_cell_21 : decode cL_cell 21 = .ok (.imul, 1) := by decide +kernel
theorem dL_cell_22 : decode cL_cell 22 = .ok (.sipush 12345, 3) := by decide +kernel
theorem dL_cell_25 : decode cL_cell 25 = .ok (.iadd, 1) := by decide +kernel
theorem dL_cell_26 : decode cL_cell 26 = .ok (.istore_n 2, 1) := by decide +kernel
theorem dL_cell_27 : decode cL_cell 27 = .ok (.iload_n 2, 1) := by decide +kernel
theorem dL_cell_28 : decode cL_cell 28 = .ok (.iload_n 2, 1) := by decide +kernel
theorem dL_cell_29 : decode cL_cell 29 = .ok (.bipush 13, 2) := by decide +kernel
theorem dL_cell_31 : decode cL_cell 31 = .ok (.iushr, 1) := by decide +kernel
theorem dL_cell_32 : decode cL_cell 32 = .ok (.ixor, 1) := by decide +kernel
theorem dL_cell_33 : decode cL_cell 33 = .ok (.ldc 8, 2) := by decide +kernel
theorem dL_cell_35 : decode cL_cell 35 = .ok (.imul, 1) := by decide +kernel
theorem dL_cell_36 : decode cL_cell 36 = .ok (.istore_n 2, 1) := by decide +kernel
theorem dL_cell_37 : decode cL_cell 37 = .ok (.iload_n 2, 1) := by decide +kernel
theorem dL_cell_38 : decode cL_cell 38 = .ok (.iload_n 2, 1) := by decide +kernel
theorem dL_cell_39 : decode cL_cell 39 = .ok (.bipush 16, 2) := by decide +kernel
theorem dL_cell_41 : decode cL_cell 41 = .ok (.iushr, 1) := by decide +kernel
theorem dL_cell_42 : decode cL_cell 42 = .ok (.ixor, 1) := by decide +kernel
theorem dL_cell_43 : decode cL_cell 43 = .ok (.ireturn, 1) := by decide +kernel
set_option maxRecDepth 20000 in
theorem ggL_say_X2_letter : GoodIn wsL_say wsX2_letter := goodIn_r _ [5, 6, 7, 8, 9, 10, 4, 11, 12, 13, 14, 15, 16, 17, 18, 19, 20, 21, 22, 23, 24, 25, 26, 27, 28, 29, 30] (by decide +kernel) (by decide +kernel)
set_option maxRecDepth 20000 in
theorem gL_say_X2_letter : GoodIn wsL_say (wsV RL 9 RX2 yX2_letter wsX2_letter) := goodIn_app (goodIn_of _ (by decide +kernel)) ggL_say_X2_letter
theorem dL_say_0 : decode cL_say 0 = .ok (.aload_n 0, 1) := by decide +kernel
theorem dL_say_1 : decode cL_say 1 = .ok (.iload_n 1, 1) := by decide +kernel
theorem dL_say_2 : decode cL_say 2 = .ok (.invokevirtual 9, 3) := by decide +kernel
theorem dL_say_5 : decode cL_say 5 = .ok (.ifCond .le 7, 3) := by decide +kernel
theorem dL_say_8 : decode cL_say 8 = .ok (.iconst 1, 1) := by decide +kernel
theorem dL_say_9 : decode cL_say 9 = .ok (.goto 4, 3) := by decide +kernel
theorem dL_say_12 : decode cL_say 12 = .ok (.iconst 0, 1) := by decide +kernel
theorem dL_say_13 : decode cL_say 13 = .ok (.ireturn, 1) := by decide +kernel
set_option maxRecDepth 20000 in
theorem ggL_number_L_say : GoodIn wsL_number wsL_say := goodIn_r _ [4, 5, 6, 7, 8, 9, 10, 11, 12, 13, 14, 15, 16, 17, 18, 19, 20, 21, 22, 23, 24, 25, 26, 27, 28, 29, 30, 31, 32, 33, 34] (by decide +kernel) (by decide +kernel)
set_option maxRecDepth 20000 in
theorem gL_number_L_say : GoodIn wsL_number (va_wsS RL 15 yL_say wsL_say) := goodIn_app (goodIn_of _ (by decide +kernel)) ggL_number_L_say
theorem dL_number_0 : decode cL_number 0 = .ok (.iconst 1, 1) := by decide +kernel
theorem dL_number_1 : decode cL_number 1 = .ok (.istore_n 3, 1) := by decide +kernel
theorem dL_number_2 : decode cL_number 2 = .ok (.iload_n 2, 1) := by decide +kernel
theorem dL_number_3 : decode cL_number 3 = .ok (.iconst 2, 1) := by decide +kernel
theorem dL_number_4 : decode cL_number 4 = .ok (.if_icmp .le 15, 3) := by decide +kernel
theorem dL_number_7 : decode cL_number 7 = .ok (.aload_n 0, 1) := by decide +kernel
theorem dL_number_8 : decode cL_number 8 = .ok (.bipush 48, 2) := by decide +kernel
theorem dL_number_10 : decode cL_number 10 = .ok (.iload_n 1, 1) := by decide +kernel
theorem dL_number_11 : decode cL_number 11 = .ok (.bipush 100, 2) := by decide +kernel
theorem dL_number_13 : decode cL_number 13 = .ok (.idiv, 1) := by decide +kernel
theorem dL_number_14 : decode cL_number 14 = .ok (.iadd, 1) := by decide +kernel
theorem dL_number_15 : decode cL_number 15 = .ok (.invokestatic 15, 3) := by decide +kernel
theorem dL_number_18 : decode cL_number 18 = .ok (.istore_n 3, 1) := by decide +kernel
theorem dL_number_19 : decode cL_number 19 = .ok (.iload_n 2, 1) := by decide +kernel
theorem dL_number_20 : decode cL_number 20 = .ok (.iconst 1, 1) := by decide +kernel
theorem dL_number_21 : decode cL_number 21 = .ok (.if_icmp .le 20, 3) := by decide +kernel
theorem dL_number_24 : decode cL_number 24 = .ok (.iload_n 3, 1) := by decide +kernel
theorem dL_number_25 : decode cL_number 25 = .ok (.aload_n 0, 1) := by decide +kernel
theorem dL_number_26 : decode cL_number 26 = .ok (.bipush 48, 2) := by decide +kernel
theorem dL_number_28 : decode cL_number 28 = .ok (.iload_n 1, 1) := by decide +kernel
theorem dL_number_29 : decode cL_number 29 = .ok (.bipush 10, 2) := by decide +kernel
theorem dL_number_31 : decode cL_number 31 = .ok (.idiv, 1) := by decide +kernel
theorem dL_number_32 : decode cL_number 32 = .ok (.bipush 10, 2) := by decide +kernel
theorem dL_number_34 : decode cL_number 34 = .ok (.irem, 1) := by decide +kernel
theorem dL_number_35 : decode cL_number 35 = .ok (.iadd, 1) := by decide +kernel
theorem dL_number_36 : decode cL_number 36 = .ok (.invokestatic 15, 3) := by decide +kernel
theorem dL_number_39 : decode cL_number 39 = .ok (.iand, 1) := by decide +kernel
theorem dL_number_40 : decode cL_number 40 = .ok (.istore_n 3, 1) := by decide +kernel
theorem dL_number_41 : decode cL_number 41 = .ok (.iload_n 3, 1) := by decide +kernel
theorem dL_number_42 : decode cL_number 42 = .ok (.aload_n 0, 1) := by decide +kernel
theorem dL_number_43 : decode cL_number 43 = .ok (.bipush 48, 2) := by decide +kernel
theorem dL_number_45 : decode cL_number 45 = .ok (.iload_n 1, 1) := by decide +kernel
theorem dL_number_46 : decode cL_number 46 = .ok (.bipush 10, 2) := by decide +kernel
theorem dL_number_48 : decode cL_number 48 = .ok (.irem, 1) := by decide +kernel
theorem dL_number_49 : decode cL_number 49 = .ok (.iadd, 1) := by decide +kernel
theorem dL_number_50 : decode cL_number 50 = .ok (.invokestatic 15, 3) := by decide +kernel
theorem dL_number_53 : decode cL_number 53 = .ok (.iand, 1) := by decide +kernel
theorem dL_number_54 : decode cL_number 54 = .ok (.ireturn, 1) := by decide +kernel
set_option maxRecDepth 20000 in
theorem ggL_hand_L_cell : GoodIn wsL_hand wsL_cell := goodIn_r _ [4, 5, 6] (by decide +kernel) (by decide +kernel)
set_option maxRecDepth 20000 in
theorem gL_hand_L_cell : GoodIn wsL_hand (va_wsS RL 21 yL_cell wsL_cell) := goodIn_app (goodIn_of _ (by decide +kernel)) ggL_hand_L_cell
set_option maxRecDepth 20000 in
theorem ggL_hand_L_say : GoodIn wsL_hand wsL_say := goodIn_r _ [9, 10, 11, 12, 13, 14, 15, 16, 17, 18, 19, 20, 21, 22, 23, 24, 25, 26, 27, 205, 206, 207, 208, 209, 210, 211, 212, 213, 214, 215, 216] (by decide +kernel) (by decide +kernel)
set_option maxRecDepth 20000 in
theorem gL_hand_L_say : GoodIn wsL_hand (va_wsS RL 15 yL_say wsL_say) := goodIn_app (goodIn_of _ (by decide +kernel)) ggL_hand_L_say
set_option maxRecDepth 20000 in
theorem ggL_hand_J0_charAt_5068e : GoodIn wsL_hand wsJ0_charAt_5068e := goodIn_r _ [32, 33, 34, 35, 36, 31, 37, 38, 39, 40, 41, 42, 43, 44, 45, 46, 47, 48, 49, 50, 51, 52, 53, 54, 55, 56, 57, 58, 59, 60, 61, 62, 63, 64, 65, 66, 67, 68] (by decide +kernel) (by decide +kernel)
set_option maxRecDepth 20000 in
theorem gL_hand_J0_charAt_5068e : GoodIn wsL_hand (wsV RL 27 RJ0 yJ0_charAt_5068e wsJ0_charAt_5068e) := goodIn_app (goodIn_of _ (by decide +kernel)) ggL_hand_J0_charAt_5068e
set_option maxRecDepth 20000 in
theorem ggL_hand_L_number : GoodIn wsL_hand wsL_number := goodIn_r _ [71, 7, 8, 3, 9, 10, 11, 12, 13, 14, 15, 16, 17, 18, 19, 20, 21, 22, 23, 24, 25, 26, 27, 205, 206, 207, 208, 209, 210, 211, 212, 213, 214, 215, 216] (by decide +kernel) (by decide +kernel)
set_option maxRecDepth 20000 in
theorem gL_hand_L_number : GoodIn wsL_hand (va_wsS RL 33 yL_number wsL_number) := goodIn_app (goodIn_of _ (by decide +kernel)) ggL_hand_L_number
set_option maxRecDepth 20000 in
theorem ggL_hand_X2_hand : GoodIn wsL_hand wsX2_hand := goodIn_r _ [75, 15, 76, 77, 78, 13, 79, 80, 81, 82, 83, 16, 22, 23, 24, 84, 85, 86, 87, 88, 89, 90, 91, 92, 93, 94, 95, 96, 97, 98, 99, 100, 101, 102, 103, 104, 105, 106, 107, 108, 109, 110, 111, 112, 113, 114, 115, 116, 117, 118, 119, 120, 121, 122, 123, 124, 125, 126, 127, 128, 129, 130, 131, 132, 133, 134, 135, 26, 27, 136, 137, 138, 139, 140, 141, 142, 143, 144, 145, 146, 147, 148, 149, 150, 151, 152, 153, 154, 155, 156, 157, 158, 159, 160, 161, 162, 163, 164, 165, 166, 167, 168, 169, 170, 171, 172, 173, 174, 175, 176, 177, 178, 179, 180, 181, 182, 183, 184, 185, 186, 187, 188, 189, 205, 206, 207, 208, 209, 210, 211, 212, 213, 214, 215, 216, 217, 218, 219, 220, 221, 222, 223, 224, 225, 226, 227, 228] (by decide +kernel) (by decide +kernel)
set_option maxRecDepth 20000 in
theorem gL_hand_X2_hand : GoodIn wsL_hand (wsV RL 37 RX2 yX2_hand wsX2_hand) := goodIn_app (goodIn_of _ (by decide +kernel)) ggL_hand_X2_hand
set_option maxRecDepth 20000 in
theorem ggL_hand_X2_count : GoodIn wsL_hand wsX2_count := goodIn_r _ [193, 21, 98, 194, 195, 196, 197, 198, 199, 200, 201, 202, 15, 203, 204, 22, 23, 13, 24, 205, 206, 207, 208, 209, 210, 211, 212, 213, 214, 215, 216, 217, 218, 219, 220, 221, 222, 223, 224, 225, 226, 227, 228] (by decide +kernel) (by decide +kernel)
set_option maxRecDepth 20000 in
theorem gL_hand_X2_count : GoodIn wsL_hand (wsV RL 41 RX2 yX2_count wsX2_count) := goodIn_app (goodIn_of _ (by decide +kernel)) ggL_hand_X2_count
theorem dL_hand_0 : decode cL_hand 0 = .ok (.aload_n 2, 1) := by decide +kernel
theorem dL_hand_1 : decode cL_hand 1 = .ok (.iload_n 3, 1) := by decide +kernel
theorem dL_hand_2 : decode cL_hand 2 = .ok (.invokestatic 21, 3) := by decide +kernel
theorem dL_hand_5 : decode cL_hand 5 = .ok (.istore 4, 2) := by decide +kernel
theorem dL_hand_7 : decode cL_hand 7 = .ok (.aload_n 1, 1) := by decide +kernel
theorem dL_hand_8 : decode cL_hand 8 = .ok (.iconst 0, 1) := by decide +kernel
theorem dL_hand_9 : decode cL_hand 9 = .ok (.iload 4, 2) := by decide +kernel
theorem dL_hand_11 : decode cL_hand 11 = .ok (.bipush 7, 2) := by decide +kernel
theorem dL_hand_13 : decode cL_hand 13 = .ok (.iand, 1) := by decide +kernel
theorem dL_hand_14 : decode cL_hand 14 = .ok (.bipush 7, 2) := by decide +kernel
theorem dL_hand_16 : decode cL_hand 16 = .ok (.irem, 1) := by decide +kernel
theorem dL_hand_17 : decode cL_hand 17 = .ok (.iastore, 1) := by decide +kernel
theorem dL_hand_18 : decode cL_hand 18 = .ok (.aload_n 1, 1) := by decide +kernel
theorem dL_hand_19 : decode cL_hand 19 = .ok (.iconst 1, 1) := by decide +kernel
theorem dL_hand_20 : decode cL_hand 20 = .ok (.sipush 160, 3) := by decide +kernel
theorem dL_hand_23 : decode cL_hand 23 = .ok (.iload 4, 2) := by decide +kernel
