theorem dX3_init_0 : decode cX3_init 0 = .ok (.aload_n 0, 1) := by decide +kernel
theorem dX3_init_1 : decode cX3_init 1 = .ok (.invokespecial 1, 3) := by decide +kernel
theorem dX3_init_4 : decode cX3_init 4 = .ok (.aload_n 0, 1) := by decide +kernel
theorem dX3_init_5 : decode cX3_init 5 = .ok (.bipush 22, 2) := by decide +kernel
theorem dX3_init_7 : decode cX3_init 7 = .ok (.newarray .int, 2) := by decide +kernel
theorem dX3_init_9 : decode cX3_init 9 = .ok (.putfield 9, 3) := by decide +kernel
theorem dX3_init_12 : decode cX3_init 12 = .ok (.aload_n 0, 1) := by decide +kernel
theorem dX3_init_13 : decode cX3_init 13 = .ok (.bipush 22, 2) := by decide +kernel
theorem dX3_init_15 : decode cX3_init 15 = .ok (.newarray .int, 2) := by decide +kernel
theorem dX3_init_17 : decode cX3_init 17 = .ok (.putfield 13, 3) := by decide +kernel
theorem dX3_init_20 : decode cX3_init 20 = .ok (.aload_n 0, 1) := by decide +kernel
theorem dX3_init_21 : decode cX3_init 21 = .ok (.bipush 22, 2) := by decide +kernel
theorem dX3_init_23 : decode cX3_init 23 = .ok (.newarray .int, 2) := by decide +kernel
theorem dX3_init_25 : decode cX3_init 25 = .ok (.putfield 16, 3) := by decide +kernel
theorem dX3_init_28 : decode cX3_init 28 = .ok (.aload_n 0, 1) := by decide +kernel
theorem dX3_init_29 : decode cX3_init 29 = .ok (.bipush 22, 2) := by decide +kernel
theorem dX3_init_31 : decode cX3_init 31 = .ok (.newarray .int, 2) := by decide +kernel
theorem dX3_init_33 : decode cX3_init 33 = .ok (.putfield 19, 3) := by decide +kernel
theorem dX3_init_36 : decode cX3_init 36 = .ok (.aload_n 0, 1) := by decide +kernel
theorem dX3_init_37 : decode cX3_init 37 = .ok (.bipush 96, 2) := by decide +kernel
theorem dX3_init_39 : decode cX3_init 39 = .ok (.newarray .int, 2) := by decide +kernel
theorem dX3_init_41 : decode cX3_init 41 = .ok (.putfield 22, 3) := by decide +kernel
theorem dX3_init_44 : decode cX3_init 44 = .ok (.aload_n 0, 1) := by decide +kernel
theorem dX3_init_45 : decode cX3_init 45 = .ok (.bipush 12, 2) := by decide +kernel
theorem dX3_init_47 : decode cX3_init 47 = .ok (.newarray .int, 2) := by decide +kernel
theorem dX3_init_49 : decode cX3_init 49 = .ok (.putfield 25, 3) := by decide +kernel
theorem dX3_init_52 : decode cX3_init 52 = .ok (.aload_n 0, 1) := by decide +kernel
theorem dX3_init_53 : decode cX3_init 53 = .ok (.bipush 7, 2) := by decide +kernel
theorem dX3_init_55 : decode cX3_init 55 = .ok (.newarray .int, 2) := by decide +kernel
theorem dX3_init_57 : decode cX3_init 57 = .ok (.putfield 28, 3) := by decide +kernel
theorem dX3_init_60 : decode cX3_init 60 = .ok (.aload_n 0, 1) := by decide +kernel
theorem dX3_init_61 : decode cX3_init 61 = .ok (.iconst 2, 1) := by decide +kernel
theorem dX3_init_62 : decode cX3_init 62 = .ok (.newarray .int, 2) := by decide +kernel
theorem dX3_init_64 : decode cX3_init 64 = .ok (.putfield 31, 3) := by decide +kernel
theorem dX3_init_67 : decode cX3_init 67 = .ok (.aload_n 0, 1) := by decide +kernel
theorem dX3_init_68 : decode cX3_init 68 = .ok (.sipush 13671, 3) := by decide +kernel
theorem dX3_init_71 : decode cX3_init 71 = .ok (.newarray .int, 2) := by decide +kernel
theorem dX3_init_73 : decode cX3_init 73 = .ok (.putfield 34, 3) := by decide +kernel
theorem dX3_init_76 : decode cX3_init 76 = .ok (.aload_n 0, 1) := by decide +kernel
theorem dX3_init_77 : decode cX3_init 77 = .ok (.getfield 9, 3) := by decide +kernel
theorem dX3_init_80 : decode cX3_init 80 = .ok (.iconst 1, 1) := by decide +kernel
theorem dX3_init_81 : decode cX3_init 81 = .ok (.sipush 180, 3) := by decide +kernel
theorem dX3_init_84 : decode cX3_init 84 = .ok (.iastore, 1) := by decide +kernel
theorem dX3_init_85 : decode cX3_init 85 = .ok (.aload_n 0, 1) := by decide +kernel
theorem dX3_init_86 : decode cX3_init 86 = .ok (.getfield 9, 3) := by decide +kernel
theorem dX3_init_89 : decode cX3_init 89 = .ok (.iconst 2, 1) := by decide +kernel
theorem dX3_init_90 : decode cX3_init 90 = .ok (.iconst 4, 1) := by decide +kernel
theorem dX3_init_91 : decode cX3_init 91 = .ok (.iastore, 1) := by decide +kernel
theorem dX3_init_92 : decode cX3_init 92 = .ok (.aload_n 0, 1) := by decide +kernel
theorem dX3_init_93 : decode cX3_init 93 = .ok (.getfield 9, 3) := by decide +kernel
theorem dX3_init_96 : decode cX3_init 96 = .ok (.bipush 7, 2) := by decide +kernel
theorem dX3_init_98 : decode cX3_init 98 = .ok (.iconst 3, 1) := by decide +kernel
theorem dX3_init_99 : decode cX3_init 99 = .ok (.iastore, 1) := by decide +kernel
theorem dX3_init_100 : decode cX3_init 100 = .ok (.return_, 1) := by decide +kernel
theorem dX3_isIn_0 : decode cX3_isIn 0 = .ok (.iload_n 0, 1) := by decide +kernel
theorem dX3_isIn_1 : decode cX3_isIn 1 = .ok (.iload_n 1, 1) := by decide +kernel
theorem dX3_isIn_2 : decode cX3_isIn 2 = .ok (.if_icmp .lt 12, 3) := by decide +kernel
theorem dX3_isIn_5 : decode cX3_isIn 5 = .ok (.iload_n 0, 1) := by decide +kernel
theorem dX3_isIn_6 : decode cX3_isIn 6 = .ok (.iload_n 2, 1) := by decide +kernel
theorem dX3_isIn_7 : decode cX3_isIn 7 = .ok (.if_icmp .gt 7, 3) := by decide +kernel
theorem dX3_isIn_10 : decode cX3_isIn 10 = .ok (.iconst 1, 1) := by decide +kernel
theorem dX3_isIn_11 : decode cX3_isIn 11 = .ok (.goto 4, 3) := by decide +kernel
theorem dX3_isIn_14 : decode cX3_isIn 14 = .ok (.iconst 0, 1) := by decide +kernel
theorem dX3_isIn_15 : decode cX3_isIn 15 = .ok (.ireturn, 1) := by decide +kernel
theorem dX3_least_0 : decode cX3_least 0 = .ok (.iload_n 0, 1) := by decide +kernel
theorem dX3_least_1 : decode cX3_least 1 = .ok (.iload_n 1, 1) := by decide +kernel
theorem dX3_least_2 : decode cX3_least 2 = .ok (.if_icmp .ge 7, 3) := by decide +kernel
theorem dX3_least_5 : decode cX3_least 5 = .ok (.iload_n 0, 1) := by decide +kernel
theorem dX3_least_6 : decode cX3_least 6 = .ok (.goto 4, 3) := by decide +kernel
theorem dX3_least_9 : decode cX3_least 9 = .ok (.iload_n 1, 1) := by decide +kernel
theorem dX3_least_10 : decode cX3_least 10 = .ok (.ireturn, 1) := by decide +kernel
theorem dX3_most_0 : decode cX3_most 0 = .ok (.iload_n 0, 1) := by decide +kernel
theorem dX3_most_1 : decode cX3_most 1 = .ok (.iload_n 1, 1) := by decide +kernel
theorem dX3_most_2 : decode cX3_most 2 = .ok (.if_icmp .le 7, 3) := by decide +kernel
theorem dX3_most_5 : decode cX3_most 5 = .ok (.iload_n 0, 1) := by decide +kernel
theorem dX3_most_6 : decode cX3_most 6 = .ok (.goto 4, 3) := by decide +kernel
theorem dX3_most_9 : decode cX3_most 9 = .ok (.iload_n 1, 1) := by decide +kernel
theorem dX3_most_10 : decode cX3_most 10 = .ok (.ireturn, 1) := by decide +kernel
theorem dX3_lays_0 : decode cX3_lays 0 = .ok (.iconst 0, 1) := by decide +kernel
theorem dX3_lays_1 : decode cX3_lays 1 = .ok (.istore_n 2, 1) := by decide +kernel
theorem dX3_lays_2 : decode cX3_lays 2 = .ok (.iload_n 2, 1) := by decide +kernel
theorem dX3_lays_3 : decode cX3_lays 3 = .ok (.bipush 22, 2) := by decide +kernel
theorem dX3_lays_5 : decode cX3_lays 5 = .ok (.if_icmp .ge 15, 3) := by decide +kernel
theorem dX3_lays_8 : decode cX3_lays 8 = .ok (.aload_n 1, 1) := by decide +kernel
theorem dX3_lays_9 : decode cX3_lays 9 = .ok (.iload_n 2, 1) := by decide +kernel
theorem dX3_lays_10 : decode cX3_lays 10 = .ok (.aload_n 0, 1) := by decide +kernel
theorem dX3_lays_11 : decode cX3_lays 11 = .ok (.iload_n 2, 1) := by decide +kernel
theorem dX3_lays_12 : decode cX3_lays 12 = .ok (.iaload, 1) := by decide +kernel
theorem dX3_lays_13 : decode cX3_lays 13 = .ok (.iastore, 1) := by decide +kernel
theorem dX3_lays_14 : decode cX3_lays 14 = .ok (.iinc 2 1, 3) := by decide +kernel
theorem dX3_lays_17 : decode cX3_lays 17 = .ok (.goto (-15), 3) := by decide +kernel
theorem dX3_lays_20 : decode cX3_lays 20 = .ok (.return_, 1) := by decide +kernel
set_option maxRecDepth 20000 in
theorem ggX3_begins_X3_lays : GoodIn wsX3_begins wsX3_lays := goodIn_r _ [6] (by decide +kernel) (by decide +kernel)
set_option maxRecDepth 20000 in
theorem gX3_begins_X3_lays : GoodIn wsX3_begins (va_wsS RX3 37 yX3_lays wsX3_lays) := goodIn_app (goodIn_of _ (by decide +kernel)) ggX3_begins_X3_lays
theorem dX3_begins_0 : decode cX3_begins 0 = .ok (.aload_n 0, 1) := by decide +kernel
theorem dX3_begins_1 : decode cX3_begins 1 = .ok (.getfield 9, 3) := by decide +kernel
theorem dX3_begins_4 : decode cX3_begins 4 = .ok (.aload_n 0, 1) := by decide +kernel
theorem dX3_begins_5 : decode cX3_begins 5 = .ok (.getfield 19, 3) := by decide +kernel
theorem dX3_begins_8 : decode cX3_begins 8 = .ok (.invokestatic 37, 3) := by decide +kernel
theorem dX3_begins_11 : decode cX3_begins 11 = .ok (.return_, 1) := by decide +kernel
set_option maxRecDepth 20000 in
theorem ggX3_ends_X3_lays : GoodIn wsX3_ends wsX3_lays := goodIn_r _ [6] (by decide +kernel) (by decide +kernel)
set_option maxRecDepth 20000 in
theorem gX3_ends_X3_lays : GoodIn wsX3_ends (va_wsS RX3 37 yX3_lays wsX3_lays) := goodIn_app (goodIn_of _ (by decide +kernel)) ggX3_ends_X3_lays
theorem dX3_ends_0 : decode cX3_ends 0 = .ok (.aload_n 0, 1) := by decide +kernel
theorem dX3_ends_1 : decode cX3_ends 1 = .ok (.getfield 19, 3) := by decide +kernel
theorem dX3_ends_4 : decode cX3_ends 4 = .ok (.aload_n 0, 1) := by decide +kernel
theorem dX3_ends_5 : decode cX3_ends 5 = .ok (.getfield 9, 3) := by decide +kernel
theorem dX3_ends_8 : decode cX3_ends 8 = .ok (.invokestatic 37, 3) := by decide +kernel
theorem dX3_ends_11 : decode cX3_ends 11 = .ok (.return_, 1) := by decide +kernel
theorem dX3_no_0 : decode cX3_no 0 = .ok (.aload_n 0, 1) := by decide +kernel
theorem dX3_no_1 : decode cX3_no 1 = .ok (.getfield 28, 3) := by decide +kernel
theorem dX3_no_4 : decode cX3_no 4 = .ok (.iload_n 1, 1) := by decide +kernel
theorem dX3_no_5 : decode cX3_no 5 = .ok (.ineg, 1) := by decide +kernel
theorem dX3_no_6 : decode cX3_no 6 = .ok (.dup2, 1) := by decide +kernel
theorem dX3_no_7 : decode cX3_no 7 = .ok (.iaload, 1) := by decide +kernel
theorem dX3_no_8 : decode cX3_no 8 = .ok (.iconst 1, 1) := by decide +kernel
theorem dX3_no_9 : decode cX3_no 9 = .ok (.iadd, 1) := by decide +kernel
theorem dX3_no_10 : decode cX3_no 10 = .ok (.iastore, 1) := by decide +kernel
theorem dX3_no_11 : decode cX3_no 11 = .ok (.iload_n 1, 1) := by decide +kernel
theorem dX3_no_12 : decode cX3_no 12 = .ok (.ireturn, 1) := by decide +kernel
set_option maxRecDepth 20000 in
theorem ggX3_far_X3_no : GoodIn wsX3_far wsX3_no := goodIn_r _ [6, 7, 8, 9, 10, 11, 12, 13, 14, 15, 16, 17, 18, 19, 20, 21, 22, 23] (by decide +kernel) (by decide +kernel)
set_option maxRecDepth 20000 in
theorem gX3_far_X3_no : GoodIn wsX3_far (wsV RX3 42 RX3 yX3_no wsX3_no) := goodIn_app (goodIn_of _ (by decide +kernel)) ggX3_far_X3_no
theorem dX3_far_0 : decode cX3_far 0 = .ok (.ldc 41, 2) := by decide +kernel
theorem dX3_far_2 : decode cX3_far 2 = .ok (.aload_n 0, 1) := by decide +kernel
theorem dX3_far_3 : decode cX3_far 3 = .ok (.iload_n 1, 1) := by decide +kernel
theorem dX3_far_4 : decode cX3_far 4 = .ok (.invokevirtual 42, 3) := by decide +kernel
theorem dX3_far_7 : decode cX3_far 7 = .ok (.isub, 1) := by decide +kernel
theorem dX3_far_8 : decode cX3_far 8 = .ok (.ireturn, 1) := by decide +kernel
theorem dX3_isOff_0 : decode cX3_isOff 0 = .ok (.aload_n 0, 1) := by decide +kernel
theorem dX3_isOff_1 : decode cX3_isOff 1 = .ok (.getfield 9, 3) := by decide +kernel
theorem dX3_isOff_4 : decode cX3_isOff 4 = .ok (.iconst 3, 1) := by decide +kernel
theorem dX3_isOff_5 : decode cX3_isOff 5 = .ok (.iaload, 1) := by decide +kernel
theorem dX3_isOff_6 : decode cX3_isOff 6 = .ok (.aload_n 0, 1) := by decide +kernel
theorem dX3_isOff_7 : decode cX3_isOff 7 = .ok (.getfield 9, 3) := by decide +kernel
theorem dX3_isOff_10 : decode cX3_isOff 10 = .ok (.iconst 0, 1) := by decide +kernel
theorem dX3_isOff_11 : decode cX3_isOff 11 = .ok (.iaload, 1) := by decide +kernel
theorem dX3_isOff_12 : decode cX3_isOff 12 = .ok (.if_icmp .lt 7, 3) := by decide +kernel
theorem dX3_isOff_15 : decode cX3_isOff 15 = .ok (.iconst 1, 1) := by decide +kernel
theorem dX3_isOff_16 : decode cX3_isOff 16 = .ok (.goto 4, 3) := by decide +kernel
theorem dX3_isOff_19 : decode cX3_isOff 19 = .ok (.iconst 0, 1) := by decide +kernel
theorem dX3_isOff_20 : decode cX3_isOff 20 = .ok (.ireturn, 1) := by decide +kernel
set_option maxRecDepth 20000 in
theorem ggX3_thickOf_X3_most : GoodIn wsX3_thickOf wsX3_most := goodIn_r _ [4] (by decide +kernel) (by decide +kernel)
set_option maxRecDepth 20000 in
theorem gX3_thickOf_X3_most : GoodIn wsX3_thickOf (va_wsS RX3 46 yX3_most wsX3_most) := goodIn_app (goodIn_of _ (by decide +kernel)) ggX3_thickOf_X3_most
theorem dX3_thickOf_0 : decode cX3_thickOf 0 = .ok (.iconst 0, 1) := by decide +kernel
theorem dX3_thickOf_1 : decode cX3_thickOf 1 = .ok (.iload_n 1, 1) := by decide +kernel
theorem dX3_thickOf_2 : decode cX3_thickOf 2 = .ok (.iload_n 2, 1) := by decide +kernel
theorem dX3_thickOf_3 : decode cX3_thickOf 3 = .ok (.iadd, 1) := by decide +kernel
theorem dX3_thickOf_4 : decode cX3_thickOf 4 = .ok (.iload_n 3, 1) := by decide +kernel
theorem dX3_thickOf_5 : decode cX3_thickOf 5 = .ok (.isub, 1) := by decide +kernel
theorem dX3_thickOf_6 : decode cX3_thickOf 6 = .ok (.invokestatic 46, 3) := by decide +kernel
theorem dX3_thickOf_9 : decode cX3_thickOf 9 = .ok (.istore 5, 2) := by decide +kernel
theorem dX3_thickOf_11 : decode cX3_thickOf 11 = .ok (.iconst 0, 1) := by decide +kernel
theorem dX3_thickOf_12 : decode cX3_thickOf 12 = .ok (.iload_n 1, 1) := by decide +kernel
theorem dX3_thickOf_13 : decode cX3_thickOf 13 = .ok (.iload_n 2, 1) := by decide +kernel
theorem dX3_thickOf_14 : decode cX3_thickOf 14 = .ok (.iconst 2, 1) := by decide +kernel
theorem dX3_thickOf_15 : decode cX3_thickOf 15 = .ok (.idiv, 1) := by decide +kernel
theorem dX3_thickOf_16 : decode cX3_thickOf 16 = .ok (.iadd, 1) := by decide +kernel
theorem dX3_thickOf_17 : decode cX3_thickOf 17 = .ok (.iload_n 3, 1) := by decide +kernel
theorem dX3_thickOf_18 : decode cX3_thickOf 18 = .ok (.iconst 4, 1) := by decide +kernel
theorem dX3_thickOf_19 : decode cX3_thickOf 19 = .ok (.idiv, 1) := by decide +kernel
theorem dX3_thickOf_20 : decode cX3_thickOf 20 = .ok (.isub, 1) := by decide +kernel
theorem dX3_thickOf_21 : decode cX3_thickOf 21 = .ok (.invokestatic 46, 3) := by decide +kernel
theorem dX3_thickOf_24 : decode cX3_thickOf 24 = .ok (.istore 6, 2) := by decide +kernel
theorem dX3_thickOf_26 : decode cX3_thickOf 26 = .ok (.iload_n 0, 1) := by decide +kernel
theorem dX3_thickOf_27 : decode cX3_thickOf 27 = .ok (.tableswitch 97 1 5 #[33, 36, 45, 70, 80], 33) := by decide +kernel
theorem dX3_thickOf_60 : decode cX3_thickOf 60 = .ok (.iload 6, 2) := by decide +kernel
theorem dX3_thickOf_62 : decode cX3_thickOf 62 = .ok (.ireturn, 1) := by decide +kernel
theorem dX3_thickOf_63 : decode cX3_thickOf 63 = .ok (.iconst 0, 1) := by decide +kernel
theorem dX3_thickOf_64 : decode cX3_thickOf 64 = .ok (.iload 5, 2) := by decide +kernel
theorem dX3_thickOf_66 : decode cX3_thickOf 66 = .ok (.iload_n 2, 1) := by decide +kernel
theorem dX3_thickOf_67 : decode cX3_thickOf 67 = .ok (.iadd, 1) := by decide +kernel
theorem dX3_thickOf_68 : decode cX3_thickOf 68 = .ok (.invokestatic 46, 3) := by decide +kernel
theorem dX3_thickOf_71 : decode cX3_thickOf 71 = .ok (.ireturn, 1) := by decide +kernel
theorem dX3_thickOf_72 : decode cX3_thickOf 72 = .ok (.iconst 0, 1) := by decide +kernel
theorem dX3_thickOf_73 : decode cX3_thickOf 73 = .ok (.iconst 0, 1) := by decide +kernel
theorem dX3_thickOf_74 : decode cX3_thickOf 74 = .ok (.iload 5, 2) := by decide +kernel
theorem dX3_thickOf_76 : decode cX3_thickOf 76 = .ok (.iload_n 2, 1) := by decide +kernel
theorem dX3_thickOf_77 : decode cX3_thickOf 77 = .ok (.iadd, 1) := by decide +kernel
theorem dX3_thickOf_78 : decode cX3_thickOf 78 = .ok (.invokestatic 46, 3) := by decide +kernel
theorem dX3_thickOf_81 : decode cX3_thickOf 81 = .ok (.iload_n 2, 1) := by decide +kernel
theorem dX3_thickOf_82 : decode cX3_thickOf 82 = .ok (.bipush 9, 2) := by decide +kernel
theorem dX3_thickOf_84 : decode cX3_thickOf 84 = .ok (.if_icmp .le 7, 3) := by decide +kernel
theorem dX3_thickOf_87 : decode cX3_thickOf 87 = .ok (.iconst 3, 1) := by decide +kernel
theorem dX3_thickOf_88 : decode cX3_thickOf 88 = .ok (.goto 4, 3) := by decide +kernel
theorem dX3_thickOf_91 : decode cX3_thickOf 91 = .ok (.iconst 0, 1) := by decide +kernel
theorem dX3_thickOf_92 : decode cX3_thickOf 92 = .ok (.iadd, 1) := by decide +kernel
theorem dX3_thickOf_93 : decode cX3_thickOf 93 = .ok (.invokestatic 46, 3) := by decide +kernel
theorem dX3_thickOf_96 : decode cX3_thickOf 96 = .ok (.ireturn, 1) := by decide +kernel
theorem dX3_thickOf_97 : decode cX3_thickOf 97 = .ok (.iconst 0, 1) := by decide +kernel
theorem dX3_thickOf_98 : decode cX3_thickOf 98 = .ok (.iload 6, 2) := by decide +kernel
theorem dX3_thickOf_100 : decode cX3_thickOf 100 = .ok (.iload 4, 2) := by decide +kernel
theorem dX3_thickOf_102 : decode cX3_thickOf 102 = .ok (.iadd, 1) := by decide +kernel
theorem dX3_thickOf_103 : decode cX3_thickOf 103 = .ok (.invokestatic 46, 3) := by decide +kernel
theorem dX3_thickOf_106 : decode cX3_thickOf 106 = .ok (.ireturn, 1) := by decide +kernel
theorem dX3_thickOf_107 : decode cX3_thickOf 107 = .ok (.iconst 0, 1) := by decide +kernel
theorem dX3_thickOf_108 : decode cX3_thickOf 108 = .ok (.iconst 0, 1) := by decide +kernel
theorem dX3_thickOf_109 : decode cX3_thickOf 109 = .ok (.iload 6, 2) := by decide +kernel
theorem dX3_thickOf_111 : decode cX3_thickOf 111 = .ok (.iload 4, 2) := by decide +kernel
theorem dX3_thickOf_113 : decode cX3_thickOf 113 = .ok (.iadd, 1) := by decide +kernel
theorem dX3_thickOf_114 : decode cX3_thickOf 114 = .ok (.invokestatic 46, 3) := by decide +kernel
theorem dX3_thickOf_117 : decode cX3_thickOf 117 = .ok (.bipush 10, 2) := by decide +kernel
theorem dX3_thickOf_119 : decode cX3_thickOf 119 = .ok (.isub, 1) := by decide +kernel
theorem dX3_thickOf_120 : decode cX3_thickOf 120 = .ok (.invokestatic 46, 3) := by decide +kernel
theorem dX3_thickOf_123 : decode cX3_thickOf 123 = .ok (.ireturn, 1) := by decide +kernel
theorem dX3_thickOf_124 : decode cX3_thickOf 124 = .ok (.iload 5, 2) := by decide +kernel
theorem dX3_thickOf_126 : decode cX3_thickOf 126 = .ok (.ireturn, 1) := by decide +kernel
set_option maxRecDepth 20000 in
theorem ggX3_partBy_X3_thickOf : GoodIn wsX3_partBy wsX3_thickOf := goodIn_r _ [5, 6, 7, 4, 8] (by decide +kernel) (by decide +kernel)
set_option maxRecDepth 20000 in
theorem gX3_partBy_X3_thickOf : GoodIn wsX3_partBy (va_wsS RX3 50 yX3_thickOf wsX3_thickOf) := goodIn_app (goodIn_of _ (by decide +kernel)) ggX3_partBy_X3_thickOf
theorem dX3_partBy_0 : decode cX3_partBy 0 = .ok (.aload_n 0, 1) := by decide +kernel
theorem dX3_partBy_1 : decode cX3_partBy 1 = .ok (.getfield 9, 3) := by decide +kernel
theorem dX3_partBy_4 : decode cX3_partBy 4 = .ok (.bipush 10, 2) := by decide +kernel
theorem dX3_partBy_6 : decode cX3_partBy 6 = .ok (.iload_n 1, 1) := by decide +kernel
theorem dX3_partBy_7 : decode cX3_partBy 7 = .ok (.iadd, 1) := by decide +kernel
theorem dX3_partBy_8 : decode cX3_partBy 8 = .ok (.iaload, 1) := by decide +kernel
theorem dX3_partBy_9 : decode cX3_partBy 9 = .ok (.aload_n 0, 1) := by decide +kernel
theorem dX3_partBy_10 : decode cX3_partBy 10 = .ok (.getfield 9, 3) := by decide +kernel
theorem dX3_partBy_13 : decode cX3_partBy 13 = .ok (.bipush 16, 2) := by decide +kernel
theorem dX3_partBy_15 : decode cX3_partBy 15 = .ok (.iload_n 1, 1) := by decide +kernel
theorem dX3_partBy_16 : decode cX3_partBy 16 = .ok (.iadd, 1) := by decide +kernel
theorem dX3_partBy_17 : decode cX3_partBy 17 = .ok (.iaload, 1) := by decide +kernel
theorem dX3_partBy_18 : decode cX3_partBy 18 = .ok (.iload_n 2, 1) := by decide +kernel
theorem dX3_partBy_19 : decode cX3_partBy 19 = .ok (.iload_n 3, 1) := by decide +kernel
theorem dX3_partBy_20 : decode cX3_partBy 20 = .ok (.iload 4, 2) := by decide +kernel
theorem dX3_partBy_22 : decode cX3_partBy 22 = .ok (.invokestatic 50, 3) := by decide +kernel
theorem dX3_partBy_25 : decode cX3_partBy 25 = .ok (.ireturn, 1) := by decide +kernel
set_option maxRecDepth 20000 in
theorem ggX3_nowOf_X3_partBy : GoodIn wsX3_nowOf wsX3_partBy := goodIn_r _ [6, 1, 7, 8, 5, 9, 10, 11, 12, 13, 14, 15, 16, 17, 18, 19, 20, 21, 22, 23, 24, 25, 26, 27, 28] (by decide +kernel) (by decide +kernel)
set_option maxRecDepth 20000 in
theorem gX3_nowOf_X3_partBy : GoodIn wsX3_nowOf (wsV RX3 54 RX3 yX3_partBy wsX3_partBy) := goodIn_app (goodIn_of _ (by decide +kernel)) ggX3_nowOf_X3_partBy
theorem dX3_nowOf_0 : decode cX3_nowOf 0 = .ok (.aload_n 0, 1) := by decide +kernel
theorem dX3_nowOf_1 : decode cX3_nowOf 1 = .ok (.iload_n 1, 1) := by decide +kernel
theorem dX3_nowOf_2 : decode cX3_nowOf 2 = .ok (.aload_n 0, 1) := by decide +kernel
theorem dX3_nowOf_3 : decode cX3_nowOf 3 = .ok (.getfield 9, 3) := by decide +kernel
theorem dX3_nowOf_6 : decode cX3_nowOf 6 = .ok (.iconst 4, 1) := by decide +kernel
theorem dX3_nowOf_7 : decode cX3_nowOf 7 = .ok (.iaload, 1) := by decide +kernel
theorem dX3_nowOf_8 : decode cX3_nowOf 8 = .ok (.aload_n 0, 1) := by decide +kernel
theorem dX3_nowOf_9 : decode cX3_nowOf 9 = .ok (.getfield 9, 3) := by decide +kernel
theorem dX3_nowOf_12 : decode cX3_nowOf 12 = .ok (.iconst 5, 1) := by decide +kernel
theorem dX3_nowOf_13 : decode cX3_nowOf 13 = .ok (.iaload, 1) := by decide +kernel
theorem dX3_nowOf_14 : decode cX3_nowOf 14 = .ok (.aload_n 0, 1) := by decide +kernel
theorem dX3_nowOf_15 : decode cX3_nowOf 15 = .ok (.getfield 9, 3) := by decide +kernel
theorem dX3_nowOf_18 : decode cX3_nowOf 18 = .ok (.bipush 7, 2) := by decide +kernel
theorem dX3_nowOf_20 : decode cX3_nowOf 20 = .ok (.iaload, 1) := by decide +kernel
theorem dX3_nowOf_21 : decode cX3_nowOf 21 = .ok (.invokevirtual 54, 3) := by decide +kernel
theorem dX3_nowOf_24 : decode cX3_nowOf 24 = .ok (.ireturn, 1) := by decide +kernel
theorem dX3_allows_0 : decode cX3_allows 0 = .ok (.iload_n 1, 1) := by decide +kernel
theorem dX3_allows_1 : decode cX3_allows 1 = .ok (.tableswitch 60 1 6 #[39, 41, 44, 54, 57, 39], 39) := by decide +kernel
theorem dX3_allows_40 : decode cX3_allows 40 = .ok (.iconst 4, 1) := by decide +kernel
theorem dX3_allows_41 : decode cX3_allows 41 = .ok (.ireturn, 1) := by decide +kernel
theorem dX3_allows_42 : decode cX3_allows 42 = .ok (.bipush 7, 2) := by decide +kernel
theorem dX3_allows_44 : decode cX3_allows 44 = .ok (.ireturn, 1) := by decide +kernel
theorem dX3_allows_45 : decode cX3_allows 45 = .ok (.bipush 9, 2) := by decide +kernel
theorem dX3_allows_47 : decode cX3_allows 47 = .ok (.aload_n 0, 1) := by decide +kernel
theorem dX3_allows_48 : decode cX3_allows 48 = .ok (.getfield 9, 3) := by decide +kernel
theorem dX3_allows_51 : decode cX3_allows 51 = .ok (.iconst 2, 1) := by decide +kernel
theorem dX3_allows_52 : decode cX3_allows 52 = .ok (.iaload, 1) := by decide +kernel
theorem dX3_allows_53 : decode cX3_allows 53 = .ok (.isub, 1) := by decide +kernel
theorem dX3_allows_54 : decode cX3_allows 54 = .ok (.ireturn, 1) := by decide +kernel
theorem dX3_allows_55 : decode cX3_allows 55 = .ok (.bipush 6, 2) := by decide +kernel
theorem dX3_allows_57 : decode cX3_allows 57 = .ok (.ireturn, 1) := by decide +kernel
theorem dX3_allows_58 : decode cX3_allows 58 = .ok (.bipush 15, 2) := by decide +kernel
theorem dX3_allows_60 : decode cX3_allows 60 = .ok (.ireturn, 1) := by decide +kernel
theorem dX3_allows_61 : decode cX3_allows 61 = .ok (.iconst 0, 1) := by decide +kernel
theorem dX3_allows_62 : decode cX3_allows 62 = .ok (.ireturn, 1) := by decide +kernel
theorem dX3_minutesOf_0 : decode cX3_minutesOf 0 = .ok (.iload_n 0, 1) := by decide +kernel
theorem dX3_minutesOf_1 : decode cX3_minutesOf 1 = .ok (.tableswitch 51 1 6 #[39, 41, 43, 51, 45, 48], 39) := by decide +kernel
theorem dX3_minutesOf_40 : decode cX3_minutesOf 40 = .ok (.iconst 2, 1) := by decide +kernel
theorem dX3_minutesOf_41 : decode cX3_minutesOf 41 = .ok (.ireturn, 1) := by decide +kernel
theorem dX3_minutesOf_42 : decode cX3_minutesOf 42 = .ok (.iconst 3, 1) := by decide +kernel
theorem dX3_minutesOf_43 : decode cX3_minutesOf 43 = .ok (.ireturn, 1) := by decide +kernel
theorem dX3_minutesOf_44 : decode cX3_minutesOf 44 = .ok (.iconst 4, 1) := by decide +kernel
theorem dX3_minutesOf_45 : decode cX3_minutesOf 45 = .ok (.ireturn, 1) := by decide +kernel
theorem dX3_minutesOf_46 : decode cX3_minutesOf 46 = .ok (.bipush 6, 2) := by decide +kernel
theorem dX3_minutesOf_48 : decode cX3_minutesOf 48 = .ok (.ireturn, 1) := by decide +kernel
theorem dX3_minutesOf_49 : decode cX3_minutesOf 49 = .ok (.bipush 8, 2) := by decide +kernel
theorem dX3_minutesOf_51 : decode cX3_minutesOf 51 = .ok (.ireturn, 1) := by decide +kernel
theorem dX3_minutesOf_52 : decode cX3_minutesOf 52 = .ok (.iconst 1, 1) := by decide +kernel
theorem dX3_minutesOf_53 : decode cX3_minutesOf 53 = .ok (.ireturn, 1) := by decide +kernel
theorem dX3_swellsBy_0 : decode cX3_swellsBy 0 = .ok (.iload_n 0, 1) := by decide +kernel
theorem dX3_swellsBy_1 : decode cX3_swellsBy 1 = .ok (.iconst 2, 1) := by decide +kernel
theorem dX3_swellsBy_2 : decode cX3_swellsBy 2 = .ok (.if_icmp .ne 7, 3) := by decide +kernel
theorem dX3_swellsBy_5 : decode cX3_swellsBy 5 = .ok (.iconst 3, 1) := by decide +kernel
theorem dX3_swellsBy_6 : decode cX3_swellsBy 6 = .ok (.goto 27, 3) := by decide +kernel
theorem dX3_swellsBy_9 : decode cX3_swellsBy 9 = .ok (.iload_n 0, 1) := by decide +kernel
theorem dX3_swellsBy_10 : decode cX3_swellsBy 10 = .ok (.iconst 3, 1) := by decide +kernel
theorem dX3_swellsBy_11 : decode cX3_swellsBy 11 = .ok (.if_icmp .eq 8, 3) := by decide +kernel
theorem dX3_swellsBy_14 : decode cX3_swellsBy 14 = .ok (.iload_n 0, 1) := by decide +kernel
theorem dX3_swellsBy_15 : decode cX3_swellsBy 15 = .ok (.iconst 5, 1) := by decide +kernel
theorem dX3_swellsBy_16 : decode cX3_swellsBy 16 = .ok (.if_icmp .ne 7, 3) := by decide +kernel
theorem dX3_swellsBy_19 : decode cX3_swellsBy 19 = .ok (.iconst 1, 1) := by decide +kernel
theorem dX3_swellsBy_20 : decode cX3_swellsBy 20 = .ok (.goto 13, 3) := by decide +kernel
theorem dX3_swellsBy_23 : decode cX3_swellsBy 23 = .ok (.iload_n 0, 1) := by decide +kernel
theorem dX3_swellsBy_24 : decode cX3_swellsBy 24 = .ok (.iconst 4, 1) := by decide +kernel
theorem dX3_swellsBy_25 : decode cX3_swellsBy 25 = .ok (.if_icmp .ne 7, 3) := by decide +kernel
theorem dX3_swellsBy_28 : decode cX3_swellsBy 28 = .ok (.iconst 5, 1) := by decide +kernel
theorem dX3_swellsBy_29 : decode cX3_swellsBy 29 = .ok (.goto 4, 3) := by decide +kernel
theorem dX3_swellsBy_32 : decode cX3_swellsBy 32 = .ok (.iconst 2, 1) := by decide +kernel
theorem dX3_swellsBy_33 : decode cX3_swellsBy 33 = .ok (.ireturn, 1) := by decide +kernel
theorem dX3_harmOf_0 : decode cX3_harmOf 0 = .ok (.iload_n 0, 1) := by decide +kernel
theorem dX3_harmOf_1 : decode cX3_harmOf 1 = .ok (.iconst 4, 1) := by decide +kernel
theorem dX3_harmOf_2 : decode cX3_harmOf 2 = .ok (.if_icmp .ne 7, 3) := by decide +kernel
theorem dX3_harmOf_5 : decode cX3_harmOf 5 = .ok (.iconst 3, 1) := by decide +kernel
theorem dX3_harmOf_6 : decode cX3_harmOf 6 = .ok (.goto 13, 3) := by decide +kernel
theorem dX3_harmOf_9 : decode cX3_harmOf 9 = .ok (.iload_n 0, 1) := by decide +kernel
theorem dX3_harmOf_10 : decode cX3_harmOf 10 = .ok (.iconst 5, 1) := by decide +kernel
theorem dX3_harmOf_11 : decode cX3_harmOf 11 = .ok (.if_icmp .ne 7, 3) := by decide +kernel
theorem dX3_harmOf_14 : decode cX3_harmOf 14 = .ok (.iconst 2, 1) := by decide +kernel
theorem dX3_harmOf_15 : decode cX3_harmOf 15 = .ok (.goto 4, 3) := by decide +kernel
theorem dX3_harmOf_18 : decode cX3_harmOf 18 = .ok (.iconst 1, 1) := by decide +kernel
theorem dX3_harmOf_19 : decode cX3_harmOf 19 = .ok (.ireturn, 1) := by decide +kernel
set_option maxRecDepth 20000 in
theorem ggX3_coldBy_X3_least : GoodIn wsX3_coldBy wsX3_least := goodIn_r _ [4] (by decide +kernel) (by decide +kernel)
set_option maxRecDepth 20000 in
theorem gX3_coldBy_X3_least : GoodIn wsX3_coldBy (va_wsS RX3 58 yX3_least wsX3_least) := goodIn_app (goodIn_of _ (by decide +kernel)) ggX3_coldBy_X3_least
theorem dX3_coldBy_0 : decode cX3_coldBy 0 = .ok (.iload_n 0, 1) := by decide +kernel
theorem dX3_coldBy_1 : decode cX3_coldBy 1 = .ok (.bipush 6, 2) := by decide +kernel
theorem dX3_coldBy_3 : decode cX3_coldBy 3 = .ok (.if_icmp .ne 15, 3) := by decide +kernel
theorem dX3_coldBy_6 : decode cX3_coldBy 6 = .ok (.bipush 20, 2) := by decide +kernel
theorem dX3_coldBy_8 : decode cX3_coldBy 8 = .ok (.iload_n 1, 1) := by decide +kernel
theorem dX3_coldBy_9 : decode cX3_coldBy 9 = .ok (.bipush 8, 2) := by decide +kernel
theorem dX3_coldBy_11 : decode cX3_coldBy 11 = .ok (.iadd, 1) := by decide +kernel
theorem dX3_coldBy_12 : decode cX3_coldBy 12 = .ok (.invokestatic 58, 3) := by decide +kernel
theorem dX3_coldBy_15 : decode cX3_coldBy 15 = .ok (.goto 4, 3) := by decide +kernel
theorem dX3_coldBy_18 : decode cX3_coldBy 18 = .ok (.iload_n 1, 1) := by decide +kernel
theorem dX3_coldBy_19 : decode cX3_coldBy 19 = .ok (.ireturn, 1) := by decide +kernel
set_option maxRecDepth 20000 in
theorem ggX3_goesOver_X3_coldBy : GoodIn wsX3_goesOver wsX3_coldBy := goodIn_r _ [5, 6, 7, 4, 8] (by decide +kernel) (by decide +kernel)
set_option maxRecDepth 20000 in
theorem gX3_goesOver_X3_coldBy : GoodIn wsX3_goesOver (va_wsS RX3 61 yX3_coldBy wsX3_coldBy) := goodIn_app (goodIn_of _ (by decide +kernel)) ggX3_goesOver_X3_coldBy
set_option maxRecDepth 20000 in
theorem ggX3_goesOver_X3_partBy : GoodIn wsX3_goesOver wsX3_partBy := goodIn_r _ [12, 1, 13, 14, 4, 15, 16, 17, 18, 23, 24, 25, 26, 27, 28, 29, 30, 31, 32, 33, 34, 35, 36, 37, 38] (by decide +kernel) (by decide +kernel)
set_option maxRecDepth 20000 in
theorem gX3_goesOver_X3_partBy : GoodIn wsX3_goesOver (wsV RX3 54 RX3 yX3_partBy wsX3_partBy) := goodIn_app (goodIn_of _ (by decide +kernel)) ggX3_goesOver_X3_partBy
set_option maxRecDepth 20000 in
theorem ggX3_goesOver_X3_allows : GoodIn wsX3_goesOver wsX3_allows := goodIn_r _ [22, 1, 23, 24, 25, 26, 27, 28, 29, 30, 31, 32, 33, 34, 35, 36, 37, 38] (by decide +kernel) (by decide +kernel)
set_option maxRecDepth 20000 in
theorem gX3_goesOver_X3_allows : GoodIn wsX3_goesOver (wsV RX3 64 RX3 yX3_allows wsX3_allows) := goodIn_app (goodIn_of _ (by decide +kernel)) ggX3_goesOver_X3_allows
theorem dX3_goesOver_0 : decode cX3_goesOver 0 = .ok (.aload_n 0, 1) := by decide +kernel
theorem dX3_goesOver_1 : decode cX3_goesOver 1 = .ok (.iload_n 1, 1) := by decide +kernel
theorem dX3_goesOver_2 : decode cX3_goesOver 2 = .ok (.iload_n 3, 1) := by decide +kernel
theorem dX3_goesOver_3 : decode cX3_goesOver 3 = .ok (.iload_n 2, 1) := by decide +kernel
theorem dX3_goesOver_4 : decode cX3_goesOver 4 = .ok (.iload 4, 2) := by decide +kernel
theorem dX3_goesOver_6 : decode cX3_goesOver 6 = .ok (.invokestatic 61, 3) := by decide +kernel
theorem dX3_goesOver_9 : decode cX3_goesOver 9 = .ok (.aload_n 0, 1) := by decide +kernel
theorem dX3_goesOver_10 : decode cX3_goesOver 10 = .ok (.getfield 9, 3) := by decide +kernel
theorem dX3_goesOver_13 : decode cX3_goesOver 13 = .ok (.bipush 7, 2) := by decide +kernel
theorem dX3_goesOver_15 : decode cX3_goesOver 15 = .ok (.iaload, 1) := by decide +kernel
theorem dX3_goesOver_16 : decode cX3_goesOver 16 = .ok (.invokevirtual 54, 3) := by decide +kernel
theorem dX3_goesOver_19 : decode cX3_goesOver 19 = .ok (.aload_n 0, 1) := by decide +kernel
theorem dX3_goesOver_20 : decode cX3_goesOver 20 = .ok (.getfield 9, 3) := by decide +kernel
theorem dX3_goesOver_23 : decode cX3_goesOver 23 = .ok (.iconst 1, 1) := by decide +kernel
theorem dX3_goesOver_24 : decode cX3_goesOver 24 = .ok (.iaload, 1) := by decide +kernel
theorem dX3_goesOver_25 : decode cX3_goesOver 25 = .ok (.aload_n 0, 1) := by decide +kernel
theorem dX3_goesOver_26 : decode cX3_goesOver 26 = .ok (.iload_n 2, 1) := by decide +kernel
theorem dX3_goesOver_27 : decode cX3_goesOver 27 = .ok (.invokevirtual 64, 3) := by decide +kernel
theorem dX3_goesOver_30 : decode cX3_goesOver 30 = .ok (.iadd, 1) := by decide +kernel
theorem dX3_goesOver_31 : decode cX3_goesOver 31 = .ok (.if_icmp .gt 7, 3) := by decide +kernel
theorem dX3_goesOver_34 : decode cX3_goesOver 34 = .ok (.iconst 1, 1) := by decide +kernel
theorem dX3_goesOver_35 : decode cX3_goesOver 35 = .ok (.goto 4, 3) := by decide +kernel
theorem dX3_goesOver_38 : decode cX3_goesOver 38 = .ok (.iconst 0, 1) := by decide +kernel
theorem dX3_goesOver_39 : decode cX3_goesOver 39 = .ok (.ireturn, 1) := by decide +kernel
set_option maxRecDepth 20000 in
theorem ggX3_wouldGo_X3_goesOver : GoodIn wsX3_wouldGo wsX3_goesOver := goodIn_r _ [6, 1, 7, 8, 5, 9, 10, 11, 12, 13, 14, 15, 16, 17, 18, 19, 20, 21, 22, 23, 24, 25, 26, 27, 28, 29, 30, 31, 32, 33, 34, 35, 36, 37, 38, 39, 40, 41, 42] (by decide +kernel) (by decide +kernel)
set_option maxRecDepth 20000 in
theorem gX3_wouldGo_X3_goesOver : GoodIn wsX3_wouldGo (wsV RX3 67 RX3 yX3_goesOver wsX3_goesOver) := goodIn_app (goodIn_of _ (by decide +kernel)) ggX3_wouldGo_X3_goesOver
theorem dX3_wouldGo_0 : decode cX3_wouldGo 0 = .ok (.aload_n 0, 1) := by decide +kernel
theorem dX3_wouldGo_1 : decode cX3_wouldGo 1 = .ok (.aload_n 0, 1) := by decide +kernel
theorem dX3_wouldGo_2 : decode cX3_wouldGo 2 = .ok (.getfield 9, 3) := by decide +kernel
theorem dX3_wouldGo_5 : decode cX3_wouldGo 5 = .ok (.iconst 3, 1) := by decide +kernel
theorem dX3_wouldGo_6 : decode cX3_wouldGo 6 = .ok (.iaload, 1) := by decide +kernel
theorem dX3_wouldGo_7 : decode cX3_wouldGo 7 = .ok (.iload_n 1, 1) := by decide +kernel
theorem dX3_wouldGo_8 : decode cX3_wouldGo 8 = .ok (.aload_n 0, 1) := by decide +kernel
theorem dX3_wouldGo_9 : decode cX3_wouldGo 9 = .ok (.getfield 9, 3) := by decide +kernel
theorem dX3_wouldGo_12 : decode cX3_wouldGo 12 = .ok (.iconst 4, 1) := by decide +kernel
theorem dX3_wouldGo_13 : decode cX3_wouldGo 13 = .ok (.iaload, 1) := by decide +kernel
theorem dX3_wouldGo_14 : decode cX3_wouldGo 14 = .ok (.aload_n 0, 1) := by decide +kernel
theorem dX3_wouldGo_15 : decode cX3_wouldGo 15 = .ok (.getfield 9, 3) := by decide +kernel
theorem dX3_wouldGo_18 : decode cX3_wouldGo 18 = .ok (.iconst 5, 1) := by decide +kernel
theorem dX3_wouldGo_19 : decode cX3_wouldGo 19 = .ok (.iaload, 1) := by decide +kernel
theorem dX3_wouldGo_20 : decode cX3_wouldGo 20 = .ok (.invokevirtual 67, 3) := by decide +kernel
theorem dX3_wouldGo_23 : decode cX3_wouldGo 23 = .ok (.ireturn, 1) := by decide +kernel
set_option maxRecDepth 20000 in
theorem ggX3_wears_X3_coldBy : GoodIn wsX3_wears wsX3_coldBy := goodIn_r _ [5, 6, 7, 4, 8] (by decide +kernel) (by decide +kernel)
set_option maxRecDepth 20000 in
theorem gX3_wears_X3_coldBy : GoodIn wsX3_wears (va_wsS RX3 61 yX3_coldBy wsX3_coldBy) := goodIn_app (goodIn_of _ (by decide +kernel)) ggX3_wears_X3_coldBy
set_option maxRecDepth 20000 in
theorem ggX3_wears_X3_swellsBy : GoodIn wsX3_wears wsX3_swellsBy := goodIn_r _ [11] (by decide +kernel) (by decide +kernel)
set_option maxRecDepth 20000 in
theorem gX3_wears_X3_swellsBy : GoodIn wsX3_wears (va_wsS RX3 71 yX3_swellsBy wsX3_swellsBy) := goodIn_app (goodIn_of _ (by decide +kernel)) ggX3_wears_X3_swellsBy
set_option maxRecDepth 20000 in
theorem ggX3_wears_X3_least : GoodIn wsX3_wears wsX3_least := goodIn_r _ [8] (by decide +kernel) (by decide +kernel)
set_option maxRecDepth 20000 in
theorem gX3_wears_X3_least : GoodIn wsX3_wears (va_wsS RX3 58 yX3_least wsX3_least) := goodIn_app (goodIn_of _ (by decide +kernel)) ggX3_wears_X3_least
set_option maxRecDepth 20000 in
theorem ggX3_wears_X3_harmOf : GoodIn wsX3_wears wsX3_harmOf := goodIn_r _ [14] (by decide +kernel) (by decide +kernel)
set_option maxRecDepth 20000 in
theorem gX3_wears_X3_harmOf : GoodIn wsX3_wears (va_wsS RX3 74 yX3_harmOf wsX3_harmOf) := goodIn_app (goodIn_of _ (by decide +kernel)) ggX3_wears_X3_harmOf
set_option maxRecDepth 20000 in
theorem ggX3_wears_X3_minutesOf : GoodIn wsX3_wears wsX3_minutesOf := goodIn_r _ [17] (by decide +kernel) (by decide +kernel)
set_option maxRecDepth 20000 in
theorem gX3_wears_X3_minutesOf : GoodIn wsX3_wears (va_wsS RX3 77 yX3_minutesOf wsX3_minutesOf) := goodIn_app (goodIn_of _ (by decide +kernel)) ggX3_wears_X3_minutesOf
theorem dX3_wears_0 : decode cX3_wears 0 = .ok (.aload_n 0, 1) := by decide +kernel
theorem dX3_wears_1 : decode cX3_wears 1 = .ok (.getfield 9, 3) := by decide +kernel
theorem dX3_wears_4 : decode cX3_wears 4 = .ok (.iconst 5, 1) := by decide +kernel
theorem dX3_wears_5 : decode cX3_wears 5 = .ok (.iload_n 1, 1) := by decide +kernel
theorem dX3_wears_6 : decode cX3_wears 6 = .ok (.aload_n 0, 1) := by decide +kernel
theorem dX3_wears_7 : decode cX3_wears 7 = .ok (.getfield 9, 3) := by decide +kernel
theorem dX3_wears_10 : decode cX3_wears 10 = .ok (.iconst 5, 1) := by decide +kernel
theorem dX3_wears_11 : decode cX3_wears 11 = .ok (.iaload, 1) := by decide +kernel
theorem dX3_wears_12 : decode cX3_wears 12 = .ok (.invokestatic 61, 3) := by decide +kernel
theorem dX3_wears_15 : decode cX3_wears 15 = .ok (.iastore, 1) := by decide +kernel
theorem dX3_wears_16 : decode cX3_wears 16 = .ok (.aload_n 0, 1) := by decide +kernel
theorem dX3_wears_17 : decode cX3_wears 17 = .ok (.getfield 9, 3) := by decide +kernel
theorem dX3_wears_20 : decode cX3_wears 20 = .ok (.iconst 4, 1) := by decide +kernel
theorem dX3_wears_21 : decode cX3_wears 21 = .ok (.bipush 30, 2) := by decide +kernel
theorem dX3_wears_23 : decode cX3_wears 23 = .ok (.aload_n 0, 1) := by decide +kernel
theorem dX3_wears_24 : decode cX3_wears 24 = .ok (.getfield 9, 3) := by decide +kernel
theorem dX3_wears_27 : decode cX3_wears 27 = .ok (.iconst 4, 1) := by decide +kernel
theorem dX3_wears_28 : decode cX3_wears 28 = .ok (.iaload, 1) := by decide +kernel
theorem dX3_wears_29 : decode cX3_wears 29 = .ok (.iload_n 1, 1) := by decide +kernel
theorem dX3_wears_30 : decode cX3_wears 30 = .ok (.invokestatic 71, 3) := by decide +kernel
theorem dX3_wears_33 : decode cX3_wears 33 = .ok (.iadd, 1) := by decide +kernel
theorem dX3_wears_34 : decode cX3_wears 34 = .ok (.invokestatic 58, 3) := by decide +kernel
theorem dX3_wears_37 : decode cX3_wears 37 = .ok (.iastore, 1) := by decide +kernel
theorem dX3_wears_38 : decode cX3_wears 38 = .ok (.aload_n 0, 1) := by decide +kernel
theorem dX3_wears_39 : decode cX3_wears 39 = .ok (.getfield 9, 3) := by decide +kernel
theorem dX3_wears_42 : decode cX3_wears 42 = .ok (.bipush 9, 2) := by decide +kernel
theorem dX3_wears_44 : decode cX3_wears 44 = .ok (.dup2, 1) := by decide +kernel
theorem dX3_wears_45 : decode cX3_wears 45 = .ok (.iaload, 1) := by decide +kernel
theorem dX3_wears_46 : decode cX3_wears 46 = .ok (.iload_n 1, 1) := by decide +kernel
theorem dX3_wears_47 : decode cX3_wears 47 = .ok (.invokestatic 74, 3) := by decide +kernel
theorem dX3_wears_50 : decode cX3_wears 50 = .ok (.iadd, 1) := by decide +kernel
theorem dX3_wears_51 : decode cX3_wears 51 = .ok (.iastore, 1) := by decide +kernel
theorem dX3_wears_52 : decode cX3_wears 52 = .ok (.aload_n 0, 1) := by decide +kernel
theorem dX3_wears_53 : decode cX3_wears 53 = .ok (.getfield 9, 3) := by decide +kernel
theorem dX3_wears_56 : decode cX3_wears 56 = .ok (.bipush 6, 2) := by decide +kernel
theorem dX3_wears_58 : decode cX3_wears 58 = .ok (.bipush 99, 2) := by decide +kernel
theorem dX3_wears_60 : decode cX3_wears 60 = .ok (.aload_n 0, 1) := by decide +kernel
theorem dX3_wears_61 : decode cX3_wears 61 = .ok (.getfield 9, 3) := by decide +kernel
theorem dX3_wears_64 : decode cX3_wears 64 = .ok (.bipush 6, 2) := by decide +kernel
theorem dX3_wears_66 : decode cX3_wears 66 = .ok (.iaload, 1) := by decide +kernel
theorem dX3_wears_67 : decode cX3_wears 67 = .ok (.iload_n 1, 1) := by decide +kernel
theorem dX3_wears_68 : decode cX3_wears 68 = .ok (.iconst 5, 1) := by decide +kernel
theorem dX3_wears_69 : decode cX3_wears 69 = .ok (.if_icmp .ne 7, 3) := by decide +kernel
theorem dX3_wears_72 : decode cX3_wears 72 = .ok (.iconst 5, 1) := by decide +kernel
theorem dX3_wears_73 : decode cX3_wears 73 = .ok (.goto 4, 3) := by decide +kernel
theorem dX3_wears_76 : decode cX3_wears 76 = .ok (.iconst 0, 1) := by decide +kernel
theorem dX3_wears_77 : decode cX3_wears 77 = .ok (.iadd, 1) := by decide +kernel
theorem dX3_wears_78 : decode cX3_wears 78 = .ok (.invokestatic 58, 3) := by decide +kernel
theorem dX3_wears_81 : decode cX3_wears 81 = .ok (.iastore, 1) := by decide +kernel
theorem dX3_wears_82 : decode cX3_wears 82 = .ok (.aload_n 0, 1) := by decide +kernel
theorem dX3_wears_83 : decode cX3_wears 83 = .ok (.getfield 9, 3) := by decide +kernel
theorem dX3_wears_86 : decode cX3_wears 86 = .ok (.bipush 8, 2) := by decide +kernel
theorem dX3_wears_88 : decode cX3_wears 88 = .ok (.dup2, 1) := by decide +kernel
theorem dX3_wears_89 : decode cX3_wears 89 = .ok (.iaload, 1) := by decide +kernel
theorem dX3_wears_90 : decode cX3_wears 90 = .ok (.iload_n 1, 1) := by decide +kernel
theorem dX3_wears_91 : decode cX3_wears 91 = .ok (.invokestatic 77, 3) := by decide +kernel
theorem dX3_wears_94 : decode cX3_wears 94 = .ok (.iadd, 1) := by decide +kernel
theorem dX3_wears_95 : decode cX3_wears 95 = .ok (.iastore, 1) := by decide +kernel
theorem dX3_wears_96 : decode cX3_wears 96 = .ok (.return_, 1) := by decide +kernel
set_option maxRecDepth 20000 in
theorem ggX3_tried_X3_wouldGo : GoodIn wsX3_tried wsX3_wouldGo := goodIn_r _ [6, 1, 7, 8, 9, 5, 10, 11, 12, 13, 14, 15, 16, 17, 18, 19, 20, 21, 22, 23, 24, 25, 26, 27, 28, 29, 30, 44, 45, 46, 47, 48, 49, 50, 51, 52, 53, 54, 55, 56, 57, 58, 59] (by decide +kernel) (by decide +kernel)
set_option maxRecDepth 20000 in
theorem gX3_tried_X3_wouldGo : GoodIn wsX3_tried (wsV RX3 80 RX3 yX3_wouldGo wsX3_wouldGo) := goodIn_app (goodIn_of _ (by decide +kernel)) ggX3_tried_X3_wouldGo
set_option maxRecDepth 20000 in
theorem ggX3_tried_X3_wears : GoodIn wsX3_tried wsX3_wears := goodIn_r _ [34, 1, 11, 12, 5, 13, 14, 15, 16, 35, 36, 37, 38, 39, 40, 41, 42, 43, 44, 45, 46, 47, 48, 49, 50, 51, 52, 53, 54, 55, 56, 57, 58, 59] (by decide +kernel) (by decide +kernel)
set_option maxRecDepth 20000 in
theorem gX3_tried_X3_wears : GoodIn wsX3_tried (wsV RX3 84 RX3 yX3_wears wsX3_wears) := goodIn_app (goodIn_of _ (by decide +kernel)) ggX3_tried_X3_wears
theorem dX3_tried_0 : decode cX3_tried 0 = .ok (.aload_n 0, 1) := by decide +kernel
theorem dX3_tried_1 : decode cX3_tried 1 = .ok (.iload_n 1, 1) := by decide +kernel
theorem dX3_tried_2 : decode cX3_tried 2 = .ok (.invokevirtual 80, 3) := by decide +kernel
theorem dX3_tried_5 : decode cX3_tried 5 = .ok (.istore_n 2, 1) := by decide +kernel
theorem dX3_tried_6 : decode cX3_tried 6 = .ok (.aload_n 0, 1) := by decide +kernel
theorem dX3_tried_7 : decode cX3_tried 7 = .ok (.getfield 9, 3) := by decide +kernel
theorem dX3_tried_10 : decode cX3_tried 10 = .ok (.iconst 3, 1) := by decide +kernel
theorem dX3_tried_11 : decode cX3_tried 11 = .ok (.dup2, 1) := by decide +kernel
theorem dX3_tried_12 : decode cX3_tried 12 = .ok (.iaload, 1) := by decide +kernel
theorem dX3_tried_13 : decode cX3_tried 13 = .ok (.iload_n 2, 1) := by decide +kernel
theorem dX3_tried_14 : decode cX3_tried 14 = .ok (.ifCond .eq 7, 3) := by decide +kernel
theorem dX3_tried_17 : decode cX3_tried 17 = .ok (.iconst 1, 1) := by decide +kernel
theorem dX3_tried_18 : decode cX3_tried 18 = .ok (.goto 4, 3) := by decide +kernel
theorem dX3_tried_21 : decode cX3_tried 21 = .ok (.iconst 0, 1) := by decide +kernel
theorem dX3_tried_22 : decode cX3_tried 22 = .ok (.iadd, 1) := by decide +kernel
theorem dX3_tried_23 : decode cX3_tried 23 = .ok (.iastore, 1) := by decide +kernel
theorem dX3_tried_24 : decode cX3_tried 24 = .ok (.aload_n 0, 1) := by decide +kernel
theorem dX3_tried_25 : decode cX3_tried 25 = .ok (.iload_n 1, 1) := by decide +kernel
theorem dX3_tried_26 : decode cX3_tried 26 = .ok (.invokevirtual 84, 3) := by decide +kernel
theorem dX3_tried_29 : decode cX3_tried 29 = .ok (.iload_n 2, 1) := by decide +kernel
theorem dX3_tried_30 : decode cX3_tried 30 = .ok (.ireturn, 1) := by decide +kernel
set_option maxRecDepth 20000 in
theorem ggX3_waits_X3_most : GoodIn wsX3_waits wsX3_most := goodIn_r _ [5] (by decide +kernel) (by decide +kernel)
set_option maxRecDepth 20000 in
theorem gX3_waits_X3_most : GoodIn wsX3_waits (va_wsS RX3 46 yX3_most wsX3_most) := goodIn_app (goodIn_of _ (by decide +kernel)) ggX3_waits_X3_most
theorem dX3_waits_0 : decode cX3_waits 0 = .ok (.aload_n 0, 1) := by decide +kernel
theorem dX3_waits_1 : decode cX3_waits 1 = .ok (.getfield 9, 3) := by decide +kernel
theorem dX3_waits_4 : decode cX3_waits 4 = .ok (.iconst 4, 1) := by decide +kernel
theorem dX3_waits_5 : decode cX3_waits 5 = .ok (.iconst 0, 1) := by decide +kernel
theorem dX3_waits_6 : decode cX3_waits 6 = .ok (.aload_n 0, 1) := by decide +kernel
theorem dX3_waits_7 : decode cX3_waits 7 = .ok (.getfield 9, 3) := by decide +kernel
theorem dX3_waits_10 : decode cX3_waits 10 = .ok (.iconst 4, 1) := by decide +kernel
theorem dX3_waits_11 : decode cX3_waits 11 = .ok (.iaload, 1) := by decide +kernel
theorem dX3_waits_12 : decode cX3_waits 12 = .ok (.iload_n 1, 1) := by decide +kernel
theorem dX3_waits_13 : decode cX3_waits 13 = .ok (.iconst 2, 1) := by decide +kernel
theorem dX3_waits_14 : decode cX3_waits 14 = .ok (.idiv, 1) := by decide +kernel
theorem dX3_waits_15 : decode cX3_waits 15 = .ok (.isub, 1) := by decide +kernel
theorem dX3_waits_16 : decode cX3_waits 16 = .ok (.invokestatic 46, 3) := by decide +kernel
theorem dX3_waits_19 : decode cX3_waits 19 = .ok (.iastore, 1) := by decide +kernel
theorem dX3_waits_20 : decode cX3_waits 20 = .ok (.aload_n 0, 1) := by decide +kernel
theorem dX3_waits_21 : decode cX3_waits 21 = .ok (.getfield 9, 3) := by decide +kernel
theorem dX3_waits_24 : decode cX3_waits 24 = .ok (.iconst 5, 1) := by decide +kernel
theorem dX3_waits_25 : decode cX3_waits 25 = .ok (.iconst 0, 1) := by decide +kernel
theorem dX3_waits_26 : decode cX3_waits 26 = .ok (.aload_n 0, 1) := by decide +kernel
theorem dX3_waits_27 : decode cX3_waits 27 = .ok (.getfield 9, 3) := by decide +kernel
theorem dX3_waits_30 : decode cX3_waits 30 = .ok (.iconst 5, 1) := by decide +kernel
theorem dX3_waits_31 : decode cX3_waits 31 = .ok (.iaload, 1) := by decide +kernel
theorem dX3_waits_32 : decode cX3_waits 32 = .ok (.iload_n 1, 1) := by decide +kernel
theorem dX3_waits_33 : decode cX3_waits 33 = .ok (.iconst 3, 1) := by decide +kernel
theorem dX3_waits_34 : decode cX3_waits 34 = .ok (.idiv, 1) := by decide +kernel
theorem dX3_waits_35 : decode cX3_waits 35 = .ok (.isub, 1) := by decide +kernel
theorem dX3_waits_36 : decode cX3_waits 36 = .ok (.invokestatic 46, 3) := by decide +kernel
theorem dX3_waits_39 : decode cX3_waits 39 = .ok (.iastore, 1) := by decide +kernel
theorem dX3_waits_40 : decode cX3_waits 40 = .ok (.aload_n 0, 1) := by decide +kernel
theorem dX3_waits_41 : decode cX3_waits 41 = .ok (.getfield 9, 3) := by decide +kernel
theorem dX3_waits_44 : decode cX3_waits 44 = .ok (.bipush 6, 2) := by decide +kernel
theorem dX3_waits_46 : decode cX3_waits 46 = .ok (.iconst 0, 1) := by decide +kernel
theorem dX3_waits_47 : decode cX3_waits 47 = .ok (.aload_n 0, 1) := by decide +kernel
theorem dX3_waits_48 : decode cX3_waits 48 = .ok (.getfield 9, 3) := by decide +kernel
theorem dX3_waits_51 : decode cX3_waits 51 = .ok (.bipush 6, 2) := by decide +kernel
theorem dX3_waits_53 : decode cX3_waits 53 = .ok (.iaload, 1) := by decide +kernel
theorem dX3_waits_54 : decode cX3_waits 54 = .ok (.iload_n 1, 1) := by decide +kernel
theorem dX3_waits_55 : decode cX3_waits 55 = .ok (.isub, 1) := by decide +kernel
theorem dX3_waits_56 : decode cX3_waits 56 = .ok (.invokestatic 46, 3) := by decide +kernel
theorem dX3_waits_59 : decode cX3_waits 59 = .ok (.iastore, 1) := by decide +kernel
theorem dX3_waits_60 : decode cX3_waits 60 = .ok (.aload_n 0, 1) := by decide +kernel
theorem dX3_waits_61 : decode cX3_waits 61 = .ok (.getfield 9, 3) := by decide +kernel
theorem dX3_waits_64 : decode cX3_waits 64 = .ok (.bipush 8, 2) := by decide +kernel
theorem dX3_waits_66 : decode cX3_waits 66 = .ok (.dup2, 1) := by decide +kernel
theorem dX3_waits_67 : decode cX3_waits 67 = .ok (.iaload, 1) := by decide +kernel
theorem dX3_waits_68 : decode cX3_waits 68 = .ok (.iload_n 1, 1) := by decide +kernel
theorem dX3_waits_69 : decode cX3_waits 69 = .ok (.iadd, 1) := by decide +kernel
theorem dX3_waits_70 : decode cX3_waits 70 = .ok (.iastore, 1) := by decide +kernel
theorem dX3_waits_71 : decode cX3_waits 71 = .ok (.return_, 1) := by decide +kernel
set_option maxRecDepth 20000 in
theorem ggX3_letter_X3_no : GoodIn wsX3_letter wsX3_no := goodIn_r _ [7, 8, 9, 10, 11, 12, 13, 14, 15, 16, 17, 18, 19, 20, 21, 22, 23, 24] (by decide +kernel) (by decide +kernel)
set_option maxRecDepth 20000 in
theorem gX3_letter_X3_no : GoodIn wsX3_letter (wsV RX3 42 RX3 yX3_no wsX3_no) := goodIn_app (goodIn_of _ (by decide +kernel)) ggX3_letter_X3_no
theorem dX3_letter_0 : decode cX3_letter 0 = .ok (.iload_n 1, 1) := by decide +kernel
theorem dX3_letter_1 : decode cX3_letter 1 = .ok (.ifCond .ge 10, 3) := by decide +kernel
theorem dX3_letter_4 : decode cX3_letter 4 = .ok (.aload_n 0, 1) := by decide +kernel
theorem dX3_letter_5 : decode cX3_letter 5 = .ok (.bipush (-4), 2) := by decide +kernel
theorem dX3_letter_7 : decode cX3_letter 7 = .ok (.invokevirtual 42, 3) := by decide +kernel
theorem dX3_letter_10 : decode cX3_letter 10 = .ok (.ireturn, 1) := by decide +kernel
theorem dX3_letter_11 : decode cX3_letter 11 = .ok (.iload_n 1, 1) := by decide +kernel
theorem dX3_letter_12 : decode cX3_letter 12 = .ok (.sipush 255, 3) := by decide +kernel
theorem dX3_letter_15 : decode cX3_letter 15 = .ok (.if_icmp .gt 12, 3) := by decide +kernel
theorem dX3_letter_18 : decode cX3_letter 18 = .ok (.aload_n 0, 1) := by decide +kernel
theorem dX3_letter_19 : decode cX3_letter 19 = .ok (.getfield 88, 3) := by decide +kernel
theorem dX3_letter_22 : decode cX3_letter 22 = .ok (.bipush 96, 2) := by decide +kernel
theorem dX3_letter_24 : decode cX3_letter 24 = .ok (.if_icmp .ne 10, 3) := by decide +kernel
theorem dX3_letter_27 : decode cX3_letter 27 = .ok (.aload_n 0, 1) := by decide +kernel
theorem dX3_letter_28 : decode cX3_letter 28 = .ok (.bipush (-6), 2) := by decide +kernel
theorem dX3_letter_30 : decode cX3_letter 30 = .ok (.invokevirtual 42, 3) := by decide +kernel
theorem dX3_letter_33 : decode cX3_letter 33 = .ok (.ireturn, 1) := by decide +kernel
theorem dX3_letter_34 : decode cX3_letter 34 = .ok (.aload_n 0, 1) := by decide +kernel
theorem dX3_letter_35 : decode cX3_letter 35 = .ok (.getfield 22, 3) := by decide +kernel
theorem dX3_letter_38 : decode cX3_letter 38 = .ok (.aload_n 0, 1) := by decide +kernel
theorem dX3_letter_39 : decode cX3_letter 39 = .ok (.getfield 88, 3) := by decide +kernel
theorem dX3_letter_42 : decode cX3_letter 42 = .ok (.iload_n 1, 1) := by decide +kernel
theorem dX3_letter_43 : decode cX3_letter 43 = .ok (.iastore, 1) := by decide +kernel
theorem dX3_letter_44 : decode cX3_letter 44 = .ok (.aload_n 0, 1) := by decide +kernel
theorem dX3_letter_45 : decode cX3_letter 45 = .ok (.dup, 1) := by decide +kernel
theorem dX3_letter_46 : decode cX3_letter 46 = .ok (.getfield 88, 3) := by decide +kernel
theorem dX3_letter_49 : decode cX3_letter 49 = .ok (.iconst 1, 1) := by decide +kernel
theorem dX3_letter_50 : decode cX3_letter 50 = .ok (.iadd, 1) := by decide +kernel
theorem dX3_letter_51 : decode cX3_letter 51 = .ok (.putfield 88, 3) := by decide +kernel
theorem dX3_letter_54 : decode cX3_letter 54 = .ok (.aload_n 0, 1) := by decide +kernel
theorem dX3_letter_55 : decode cX3_letter 55 = .ok (.getfield 88, 3) := by decide +kernel
theorem dX3_letter_58 : decode cX3_letter 58 = .ok (.ireturn, 1) := by decide +kernel
theorem dX3_here_0 : decode cX3_here 0 = .ok (.aload_n 0, 1) := by decide +kernel
theorem dX3_here_1 : decode cX3_here 1 = .ok (.getfield 92, 3) := by decide +kernel
theorem dX3_here_4 : decode cX3_here 4 = .ok (.aload_n 0, 1) := by decide +kernel
theorem dX3_here_5 : decode cX3_here 5 = .ok (.getfield 88, 3) := by decide +kernel
theorem dX3_here_8 : decode cX3_here 8 = .ok (.if_icmp .ge 15, 3) := by decide +kernel
theorem dX3_here_11 : decode cX3_here 11 = .ok (.aload_n 0, 1) := by decide +kernel
theorem dX3_here_12 : decode cX3_here 12 = .ok (.getfield 22, 3) := by decide +kernel
theorem dX3_here_15 : decode cX3_here 15 = .ok (.aload_n 0, 1) := by decide +kernel
theorem dX3_here_16 : decode cX3_here 16 = .ok (.getfield 92, 3) := by decide +kernel
theorem dX3_here_19 : decode cX3_here 19 = .ok (.iaload, 1) := by decide +kernel
theorem dX3_here_20 : decode cX3_here 20 = .ok (.goto 4, 3) := by decide +kernel
theorem dX3_here_23 : decode cX3_here 23 = .ok (.iconst (-1), 1) := by decide +kernel
theorem dX3_here_24 : decode cX3_here 24 = .ok (.ireturn, 1) := by decide +kernel
theorem dX3_kindOf_0 : decode cX3_kindOf 0 = .ok (.iload_n 0, 1) := by decide +kernel
theorem dX3_kindOf_1 : decode cX3_kindOf 1 = .ok (.tableswitch 71 106 116 #[67, 61, 71, 71, 71, 71, 59, 71, 65, 63, 69], 59) := by decide +kernel
theorem dX3_kindOf_60 : decode cX3_kindOf 60 = .ok (.iconst 0, 1) := by decide +kernel
theorem dX3_kindOf_61 : decode cX3_kindOf 61 = .ok (.ireturn, 1) := by decide +kernel
theorem dX3_kindOf_62 : decode cX3_kindOf 62 = .ok (.iconst 1, 1) := by decide +kernel
theorem dX3_kindOf_63 : decode cX3_kindOf 63 = .ok (.ireturn, 1) := by decide +kernel
theorem dX3_kindOf_64 : decode cX3_kindOf 64 = .ok (.iconst 2, 1) := by decide +kernel
theorem dX3_kindOf_65 : decode cX3_kindOf 65 = .ok (.ireturn, 1) := by decide +kernel
theorem dX3_kindOf_66 : decode cX3_kindOf 66 = .ok (.iconst 3, 1) := by decide +kernel
theorem dX3_kindOf_67 : decode cX3_kindOf 67 = .ok (.ireturn, 1) := by decide +kernel
theorem dX3_kindOf_68 : decode cX3_kindOf 68 = .ok (.iconst 4, 1) := by decide +kernel
theorem dX3_kindOf_69 : decode cX3_kindOf 69 = .ok (.ireturn, 1) := by decide +kernel
theorem dX3_kindOf_70 : decode cX3_kindOf 70 = .ok (.iconst 5, 1) := by decide +kernel
theorem dX3_kindOf_71 : decode cX3_kindOf 71 = .ok (.ireturn, 1) := by decide +kernel
theorem dX3_kindOf_72 : decode cX3_kindOf 72 = .ok (.bipush (-9), 2) := by decide +kernel
theorem dX3_kindOf_74 : decode cX3_kindOf 74 = .ok (.ireturn, 1) := by decide +kernel
set_option maxRecDepth 20000 in
theorem ggX3_readsNumber_X3_here : GoodIn wsX3_readsNumber wsX3_here := goodIn_r _ [7, 2, 8, 9, 13, 14, 15, 16, 17, 18, 19, 20, 21, 22, 23, 24, 25, 26, 27, 28] (by decide +kernel) (by decide +kernel)
set_option maxRecDepth 20000 in
theorem gX3_readsNumber_X3_here : GoodIn wsX3_readsNumber (wsV RX3 95 RX3 yX3_here wsX3_here) := goodIn_app (goodIn_of _ (by decide +kernel)) ggX3_readsNumber_X3_here
set_option maxRecDepth 20000 in
theorem ggX3_readsNumber_X3_isIn : GoodIn wsX3_readsNumber wsX3_isIn := goodIn_r _ [12] (by decide +kernel) (by decide +kernel)
set_option maxRecDepth 20000 in
theorem gX3_readsNumber_X3_isIn : GoodIn wsX3_readsNumber (va_wsS RX3 99 yX3_isIn wsX3_isIn) := goodIn_app (goodIn_of _ (by decide +kernel)) ggX3_readsNumber_X3_isIn
theorem dX3_readsNumber_0 : decode cX3_readsNumber 0 = .ok (.aload_n 0, 1) := by decide +kernel
theorem dX3_readsNumber_1 : decode cX3_readsNumber 1 = .ok (.getfield 31, 3) := by decide +kernel
theorem dX3_readsNumber_4 : decode cX3_readsNumber 4 = .ok (.iload_n 1, 1) := by decide +kernel
theorem dX3_readsNumber_5 : decode cX3_readsNumber 5 = .ok (.iconst 0, 1) := by decide +kernel
theorem dX3_readsNumber_6 : decode cX3_readsNumber 6 = .ok (.iastore, 1) := by decide +kernel
theorem dX3_readsNumber_7 : decode cX3_readsNumber 7 = .ok (.iconst 0, 1) := by decide +kernel
theorem dX3_readsNumber_8 : decode cX3_readsNumber 8 = .ok (.istore_n 3, 1) := by decide +kernel
theorem dX3_readsNumber_9 : decode cX3_readsNumber 9 = .ok (.iload_n 3, 1) := by decide +kernel
theorem dX3_readsNumber_10 : decode cX3_readsNumber 10 = .ok (.iload_n 2, 1) := by decide +kernel
theorem dX3_readsNumber_11 : decode cX3_readsNumber 11 = .ok (.if_icmp .ge 58, 3) := by decide +kernel
theorem dX3_readsNumber_14 : decode cX3_readsNumber 14 = .ok (.aload_n 0, 1) := by decide +kernel
theorem dX3_readsNumber_15 : decode cX3_readsNumber 15 = .ok (.invokevirtual 95, 3) := by decide +kernel
theorem dX3_readsNumber_18 : decode cX3_readsNumber 18 = .ok (.bipush 48, 2) := by decide +kernel
theorem dX3_readsNumber_20 : decode cX3_readsNumber 20 = .ok (.bipush 57, 2) := by decide +kernel
theorem dX3_readsNumber_22 : decode cX3_readsNumber 22 = .ok (.invokestatic 99, 3) := by decide +kernel
theorem dX3_readsNumber_25 : decode cX3_readsNumber 25 = .ok (.ifCond .ne 5, 3) := by decide +kernel
theorem dX3_readsNumber_28 : decode cX3_readsNumber 28 = .ok (.iconst 0, 1) := by decide +kernel
theorem dX3_readsNumber_29 : decode cX3_readsNumber 29 = .ok (.ireturn, 1) := by decide +kernel
theorem dX3_readsNumber_30 : decode cX3_readsNumber 30 = .ok (.aload_n 0, 1) := by decide +kernel
theorem dX3_readsNumber_31 : decode cX3_readsNumber 31 = .ok (.getfield 31, 3) := by decide +kernel
theorem dX3_readsNumber_34 : decode cX3_readsNumber 34 = .ok (.iload_n 1, 1) := by decide +kernel
theorem dX3_readsNumber_35 : decode cX3_readsNumber 35 = .ok (.bipush 10, 2) := by decide +kernel
theorem dX3_readsNumber_37 : decode cX3_readsNumber 37 = .ok (.aload_n 0, 1) := by decide +kernel
theorem dX3_readsNumber_38 : decode cX3_readsNumber 38 = .ok (.getfield 31, 3) := by decide +kernel
theorem dX3_readsNumber_41 : decode cX3_readsNumber 41 = .ok (.iload_n 1, 1) := by decide +kernel
theorem dX3_readsNumber_42 : decode cX3_readsNumber 42 = .ok (.iaload, 1) := by decide +kernel
theorem dX3_readsNumber_43 : decode cX3_readsNumber 43 = .ok (.imul, 1) := by decide +kernel
theorem dX3_readsNumber_44 : decode cX3_readsNumber 44 = .ok (.aload_n 0, 1) := by decide +kernel
theorem dX3_readsNumber_45 : decode cX3_readsNumber 45 = .ok (.invokevirtual 95, 3) := by decide +kernel
theorem dX3_readsNumber_48 : decode cX3_readsNumber 48 = .ok (.iadd, 1) := by decide +kernel
theorem dX3_readsNumber_49 : decode cX3_readsNumber 49 = .ok (.bipush 48, 2) := by decide +kernel
theorem dX3_readsNumber_51 : decode cX3_readsNumber 51 = .ok (.isub, 1) := by decide +kernel
theorem dX3_readsNumber_52 : decode cX3_readsNumber 52 = .ok (.iastore, 1) := by decide +kernel
theorem dX3_readsNumber_53 : decode cX3_readsNumber 53 = .ok (.aload_n 0, 1) := by decide +kernel
theorem dX3_readsNumber_54 : decode cX3_readsNumber 54 = .ok (.dup, 1) := by decide +kernel
theorem dX3_readsNumber_55 : decode cX3_readsNumber 55 = .ok (.getfield 92, 3) := by decide +kernel
theorem dX3_readsNumber_58 : decode cX3_readsNumber 58 = .ok (.iconst 1, 1) := by decide +kernel
theorem dX3_readsNumber_59 : decode cX3_readsNumber 59 = .ok (.iadd, 1) := by decide +kernel
theorem dX3_readsNumber_60 : decode cX3_readsNumber 60 = .ok (.putfield 92, 3) := by decide +kernel
theorem dX3_readsNumber_63 : decode cX3_readsNumber 63 = .ok (.iinc 3 1, 3) := by decide +kernel
theorem dX3_readsNumber_66 : decode cX3_readsNumber 66 = .ok (.goto (-57), 3) := by decide +kernel
theorem dX3_readsNumber_69 : decode cX3_readsNumber 69 = .ok (.iconst 1, 1) := by decide +kernel
theorem dX3_readsNumber_70 : decode cX3_readsNumber 70 = .ok (.ireturn, 1) := by decide +kernel
set_option maxRecDepth 20000 in
theorem ggX3_readsStatement_X3_here : GoodIn wsX3_readsStatement wsX3_here := goodIn_r _ [7, 1, 8, 9, 20, 21, 22, 23, 24, 25, 26, 27, 28, 29, 30, 31, 32, 33, 34, 35] (by decide +kernel) (by decide +kernel)
set_option maxRecDepth 20000 in
theorem gX3_readsStatement_X3_here : GoodIn wsX3_readsStatement (wsV RX3 95 RX3 yX3_here wsX3_here) := goodIn_app (goodIn_of _ (by decide +kernel)) ggX3_readsStatement_X3_here
set_option maxRecDepth 20000 in
theorem ggX3_readsStatement_X3_kindOf : GoodIn wsX3_readsStatement wsX3_kindOf := goodIn_r _ [12] (by decide +kernel) (by decide +kernel)
set_option maxRecDepth 20000 in
theorem gX3_readsStatement_X3_kindOf : GoodIn wsX3_readsStatement (va_wsS RX3 103 yX3_kindOf wsX3_kindOf) := goodIn_app (goodIn_of _ (by decide +kernel)) ggX3_readsStatement_X3_kindOf
set_option maxRecDepth 20000 in
theorem ggX3_readsStatement_X3_readsNumber : GoodIn wsX3_readsStatement wsX3_readsNumber := goodIn_r _ [16, 2, 1, 3, 4, 5, 6, 7, 8, 9, 17, 18, 19, 20, 21, 22, 23, 24, 25, 26, 27, 28, 29, 30, 31, 32, 33, 34, 35] (by decide +kernel) (by decide +kernel)
set_option maxRecDepth 20000 in
theorem gX3_readsStatement_X3_readsNumber : GoodIn wsX3_readsStatement (wsV RX3 106 RX3 yX3_readsNumber wsX3_readsNumber) := goodIn_app (goodIn_of _ (by decide +kernel)) ggX3_readsStatement_X3_readsNumber
theorem dX3_readsStatement_0 : decode cX3_readsStatement 0 = .ok (.aload_n 0, 1) := by decide +kernel
theorem dX3_readsStatement_1 : decode cX3_readsStatement 1 = .ok (.invokevirtual 95, 3) := by decide +kernel
theorem dX3_readsStatement_4 : decode cX3_readsStatement 4 = .ok (.istore_n 1, 1) := by decide +kernel
theorem dX3_readsStatement_5 : decode cX3_readsStatement 5 = .ok (.iconst 0, 1) := by decide +kernel
theorem dX3_readsStatement_6 : decode cX3_readsStatement 6 = .ok (.istore_n 2, 1) := by decide +kernel
theorem dX3_readsStatement_7 : decode cX3_readsStatement 7 = .ok (.aload_n 0, 1) := by decide +kernel
theorem dX3_readsStatement_8 : decode cX3_readsStatement 8 = .ok (.dup, 1) := by decide +kernel
theorem dX3_readsStatement_9 : decode cX3_readsStatement 9 = .ok (.getfield 92, 3) := by decide +kernel
theorem dX3_readsStatement_12 : decode cX3_readsStatement 12 = .ok (.iconst 1, 1) := by decide +kernel
theorem dX3_readsStatement_13 : decode cX3_readsStatement 13 = .ok (.iadd, 1) := by decide +kernel
theorem dX3_readsStatement_14 : decode cX3_readsStatement 14 = .ok (.putfield 92, 3) := by decide +kernel
theorem dX3_readsStatement_17 : decode cX3_readsStatement 17 = .ok (.iload_n 1, 1) := by decide +kernel
theorem dX3_readsStatement_18 : decode cX3_readsStatement 18 = .ok (.tableswitch 189 99 119 #[169, 189, 189, 189, 189, 179, 189, 189, 189, 189, 189, 189, 189, 98, 189, 142, 169, 179, 189, 189, 169], 98) := by decide +kernel
theorem dX3_readsStatement_116 : decode cX3_readsStatement 116 = .ok (.aload_n 0, 1) := by decide +kernel
theorem dX3_readsStatement_117 : decode cX3_readsStatement 117 = .ok (.getfield 31, 3) := by decide +kernel
theorem dX3_readsStatement_120 : decode cX3_readsStatement 120 = .ok (.iconst 1, 1) := by decide +kernel
theorem dX3_readsStatement_121 : decode cX3_readsStatement 121 = .ok (.aload_n 0, 1) := by decide +kernel
theorem dX3_readsStatement_122 : decode cX3_readsStatement 122 = .ok (.invokevirtual 95, 3) := by decide +kernel
theorem dX3_readsStatement_125 : decode cX3_readsStatement 125 = .ok (.invokestatic 103, 3) := by decide +kernel
theorem dX3_readsStatement_128 : decode cX3_readsStatement 128 = .ok (.iastore, 1) := by decide +kernel
theorem dX3_readsStatement_129 : decode cX3_readsStatement 129 = .ok (.aload_n 0, 1) := by decide +kernel
theorem dX3_readsStatement_130 : decode cX3_readsStatement 130 = .ok (.getfield 31, 3) := by decide +kernel
theorem dX3_readsStatement_133 : decode cX3_readsStatement 133 = .ok (.iconst 1, 1) := by decide +kernel
theorem dX3_readsStatement_134 : decode cX3_readsStatement 134 = .ok (.iaload, 1) := by decide +kernel
theorem dX3_readsStatement_135 : decode cX3_readsStatement 135 = .ok (.ifCond .ge 5, 3) := by decide +kernel
theorem dX3_readsStatement_138 : decode cX3_readsStatement 138 = .ok (.iconst 0, 1) := by decide +kernel
theorem dX3_readsStatement_139 : decode cX3_readsStatement 139 = .ok (.ireturn, 1) := by decide +kernel
theorem dX3_readsStatement_140 : decode cX3_readsStatement 140 = .ok (.aload_n 0, 1) := by decide +kernel
theorem dX3_readsStatement_141 : decode cX3_readsStatement 141 = .ok (.dup, 1) := by decide +kernel
theorem dX3_readsStatement_142 : decode cX3_readsStatement 142 = .ok (.getfield 92, 3) := by decide +kernel
theorem dX3_readsStatement_145 : decode cX3_readsStatement 145 = .ok (.iconst 1, 1) := by decide +kernel
theorem dX3_readsStatement_146 : decode cX3_readsStatement 146 = .ok (.iadd, 1) := by decide +kernel
theorem dX3_readsStatement_147 : decode cX3_readsStatement 147 = .ok (.putfield 92, 3) := by decide +kernel
theorem dX3_readsStatement_150 : decode cX3_readsStatement 150 = .ok (.aload_n 0, 1) := by decide +kernel
theorem dX3_readsStatement_151 : decode cX3_readsStatement 151 = .ok (.iconst 0, 1) := by decide +kernel
theorem dX3_readsStatement_152 : decode cX3_readsStatement 152 = .ok (.iconst 3, 1) := by decide +kernel
theorem dX3_readsStatement_153 : decode cX3_readsStatement 153 = .ok (.invokevirtual 106, 3) := by decide +kernel
theorem dX3_readsStatement_156 : decode cX3_readsStatement 156 = .ok (.istore_n 2, 1) := by decide +kernel
theorem dX3_readsStatement_157 : decode cX3_readsStatement 157 = .ok (.goto 62, 3) := by decide +kernel
theorem dX3_readsStatement_160 : decode cX3_readsStatement 160 = .ok (.aload_n 0, 1) := by decide +kernel
theorem dX3_readsStatement_161 : decode cX3_readsStatement 161 = .ok (.iconst 0, 1) := by decide +kernel
theorem dX3_readsStatement_162 : decode cX3_readsStatement 162 = .ok (.iconst 3, 1) := by decide +kernel
theorem dX3_readsStatement_163 : decode cX3_readsStatement 163 = .ok (.invokevirtual 106, 3) := by decide +kernel
theorem dX3_readsStatement_166 : decode cX3_readsStatement 166 = .ok (.ifCond .eq 16, 3) := by decide +kernel
theorem dX3_readsStatement_169 : decode cX3_readsStatement 169 = .ok (.aload_n 0, 1) := by decide +kernel
theorem dX3_readsStatement_170 : decode cX3_readsStatement 170 = .ok (.iconst 1, 1) := by decide +kernel
theorem dX3_readsStatement_171 : decode cX3_readsStatement 171 = .ok (.iconst 1, 1) := by decide +kernel
theorem dX3_readsStatement_172 : decode cX3_readsStatement 172 = .ok (.invokevirtual 106, 3) := by decide +kernel
theorem dX3_readsStatement_175 : decode cX3_readsStatement 175 = .ok (.ifCond .eq 7, 3) := by decide +kernel
theorem dX3_readsStatement_178 : decode cX3_readsStatement 178 = .ok (.iconst 1, 1) := by decide +kernel
theorem dX3_readsStatement_179 : decode cX3_readsStatement 179 = .ok (.goto 4, 3) := by decide +kernel
theorem dX3_readsStatement_182 : decode cX3_readsStatement 182 = .ok (.iconst 0, 1) := by decide +kernel
theorem dX3_readsStatement_183 : decode cX3_readsStatement 183 = .ok (.istore_n 2, 1) := by decide +kernel
theorem dX3_readsStatement_184 : decode cX3_readsStatement 184 = .ok (.goto 35, 3) := by decide +kernel
theorem dX3_readsStatement_187 : decode cX3_readsStatement 187 = .ok (.aload_n 0, 1) := by decide +kernel
theorem dX3_readsStatement_188 : decode cX3_readsStatement 188 = .ok (.iconst 0, 1) := by decide +kernel
theorem dX3_readsStatement_189 : decode cX3_readsStatement 189 = .ok (.iconst 2, 1) := by decide +kernel
theorem dX3_readsStatement_190 : decode cX3_readsStatement 190 = .ok (.invokevirtual 106, 3) := by decide +kernel
theorem dX3_readsStatement_193 : decode cX3_readsStatement 193 = .ok (.istore_n 2, 1) := by decide +kernel
theorem dX3_readsStatement_194 : decode cX3_readsStatement 194 = .ok (.goto 25, 3) := by decide +kernel
theorem dX3_readsStatement_197 : decode cX3_readsStatement 197 = .ok (.aload_n 0, 1) := by decide +kernel
theorem dX3_readsStatement_198 : decode cX3_readsStatement 198 = .ok (.iconst 0, 1) := by decide +kernel
theorem dX3_readsStatement_199 : decode cX3_readsStatement 199 = .ok (.iconst 1, 1) := by decide +kernel
theorem dX3_readsStatement_200 : decode cX3_readsStatement 200 = .ok (.invokevirtual 106, 3) := by decide +kernel
theorem dX3_readsStatement_203 : decode cX3_readsStatement 203 = .ok (.istore_n 2, 1) := by decide +kernel
theorem dX3_readsStatement_204 : decode cX3_readsStatement 204 = .ok (.goto 15, 3) := by decide +kernel
theorem dX3_readsStatement_207 : decode cX3_readsStatement 207 = .ok (.aload_n 0, 1) := by decide +kernel
theorem dX3_readsStatement_208 : decode cX3_readsStatement 208 = .ok (.dup, 1) := by decide +kernel
theorem dX3_readsStatement_209 : decode cX3_readsStatement 209 = .ok (.getfield 92, 3) := by decide +kernel
theorem dX3_readsStatement_212 : decode cX3_readsStatement 212 = .ok (.iconst 1, 1) := by decide +kernel
theorem dX3_readsStatement_213 : decode cX3_readsStatement 213 = .ok (.isub, 1) := by decide +kernel
theorem dX3_readsStatement_214 : decode cX3_readsStatement 214 = .ok (.putfield 92, 3) := by decide +kernel
theorem dX3_readsStatement_217 : decode cX3_readsStatement 217 = .ok (.iconst 0, 1) := by decide +kernel
theorem dX3_readsStatement_218 : decode cX3_readsStatement 218 = .ok (.ireturn, 1) := by decide +kernel
theorem dX3_readsStatement_219 : decode cX3_readsStatement 219 = .ok (.iload_n 2, 1) := by decide +kernel
theorem dX3_readsStatement_220 : decode cX3_readsStatement 220 = .ok (.ifCond .eq 12, 3) := by decide +kernel
theorem dX3_readsStatement_223 : decode cX3_readsStatement 223 = .ok (.aload_n 0, 1) := by decide +kernel
theorem dX3_readsStatement_224 : decode cX3_readsStatement 224 = .ok (.invokevirtual 95, 3) := by decide +kernel
theorem dX3_readsStatement_227 : decode cX3_readsStatement 227 = .ok (.bipush 59, 2) := by decide +kernel
theorem dX3_readsStatement_229 : decode cX3_readsStatement 229 = .ok (.if_icmp .eq 5, 3) := by decide +kernel
theorem dX3_readsStatement_232 : decode cX3_readsStatement 232 = .ok (.iconst 0, 1) := by decide +kernel
theorem dX3_readsStatement_233 : decode cX3_readsStatement 233 = .ok (.ireturn, 1) := by decide +kernel
theorem dX3_readsStatement_234 : decode cX3_readsStatement 234 = .ok (.aload_n 0, 1) := by decide +kernel
theorem dX3_readsStatement_235 : decode cX3_readsStatement 235 = .ok (.dup, 1) := by decide +kernel
theorem dX3_readsStatement_236 : decode cX3_readsStatement 236 = .ok (.getfield 92, 3) := by decide +kernel
theorem dX3_readsStatement_239 : decode cX3_readsStatement 239 = .ok (.iconst 1, 1) := by decide +kernel
theorem dX3_readsStatement_240 : decode cX3_readsStatement 240 = .ok (.iadd, 1) := by decide +kernel
theorem dX3_readsStatement_241 : decode cX3_readsStatement 241 = .ok (.putfield 92, 3) := by decide +kernel
theorem dX3_readsStatement_244 : decode cX3_readsStatement 244 = .ok (.iconst 1, 1) := by decide +kernel
theorem dX3_readsStatement_245 : decode cX3_readsStatement 245 = .ok (.ireturn, 1) := by decide +kernel
set_option maxRecDepth 20000 in
theorem ggX3_comes_X3_isOff : GoodIn wsX3_comes wsX3_isOff := goodIn_r _ [7, 2, 60, 61, 62, 63, 64, 65, 66, 67, 68, 69, 70, 71, 72, 73, 74, 75] (by decide +kernel) (by decide +kernel)
set_option maxRecDepth 20000 in
theorem gX3_comes_X3_isOff : GoodIn wsX3_comes (wsV RX3 110 RX3 yX3_isOff wsX3_isOff) := goodIn_app (goodIn_of _ (by decide +kernel)) ggX3_comes_X3_isOff
set_option maxRecDepth 20000 in
theorem ggX3_comes_X3_isIn : GoodIn wsX3_comes wsX3_isIn := goodIn_r _ [10] (by decide +kernel) (by decide +kernel)
set_option maxRecDepth 20000 in
theorem gX3_comes_X3_isIn : GoodIn wsX3_comes (va_wsS RX3 99 yX3_isIn wsX3_isIn) := goodIn_app (goodIn_of _ (by decide +kernel)) ggX3_comes_X3_isIn
set_option maxRecDepth 20000 in
theorem ggX3_comes_X3_minutesOf : GoodIn wsX3_comes wsX3_minutesOf := goodIn_r _ [13] (by decide +kernel) (by decide +kernel)
set_option maxRecDepth 20000 in
theorem gX3_comes_X3_minutesOf : GoodIn wsX3_comes (va_wsS RX3 77 yX3_minutesOf wsX3_minutesOf) := goodIn_app (goodIn_of _ (by decide +kernel)) ggX3_comes_X3_minutesOf
set_option maxRecDepth 20000 in
theorem ggX3_comes_X3_tried : GoodIn wsX3_comes wsX3_tried := goodIn_r _ [17, 2, 18, 19, 20, 6, 21, 22, 23, 24, 25, 26, 27, 28, 29, 30, 31, 32, 33, 34, 35, 36, 37, 38, 39, 40, 41, 42, 43, 44, 45, 46, 47, 48, 49, 50, 51, 52, 53, 54, 55, 11, 12, 13, 60, 61, 62, 63, 64, 65, 66, 67, 68, 69, 70, 71, 72, 73, 74, 75] (by decide +kernel) (by decide +kernel)
set_option maxRecDepth 20000 in
theorem gX3_comes_X3_tried : GoodIn wsX3_comes (wsV RX3 114 RX3 yX3_tried wsX3_tried) := goodIn_app (goodIn_of _ (by decide +kernel)) ggX3_comes_X3_tried
set_option maxRecDepth 20000 in
theorem ggX3_comes_X3_waits : GoodIn wsX3_comes wsX3_waits := goodIn_r _ [59, 2, 39, 40, 6, 41, 60, 61, 62, 63, 64, 65, 66, 67, 68, 69, 70, 71, 72, 73, 74, 75] (by decide +kernel) (by decide +kernel)
set_option maxRecDepth 20000 in
theorem gX3_comes_X3_waits : GoodIn wsX3_comes (wsV RX3 117 RX3 yX3_waits wsX3_waits) := goodIn_app (goodIn_of _ (by decide +kernel)) ggX3_comes_X3_waits
theorem dX3_comes_0 : decode cX3_comes 0 = .ok (.aload_n 0, 1) := by decide +kernel
theorem dX3_comes_1 : decode cX3_comes 1 = .ok (.getfield 31, 3) := by decide +kernel
theorem dX3_comes_4 : decode cX3_comes 4 = .ok (.iconst 0, 1) := by decide +kernel
theorem dX3_comes_5 : decode cX3_comes 5 = .ok (.iaload, 1) := by decide +kernel
theorem dX3_comes_6 : decode cX3_comes 6 = .ok (.istore_n 2, 1) := by decide +kernel
theorem dX3_comes_7 : decode cX3_comes 7 = .ok (.aload_n 0, 1) := by decide +kernel
theorem dX3_comes_8 : decode cX3_comes 8 = .ok (.getfield 31, 3) := by decide +kernel
theorem dX3_comes_11 : decode cX3_comes 11 = .ok (.iconst 1, 1) := by decide +kernel
theorem dX3_comes_12 : decode cX3_comes 12 = .ok (.iaload, 1) := by decide +kernel
theorem dX3_comes_13 : decode cX3_comes 13 = .ok (.istore_n 3, 1) := by decide +kernel
theorem dX3_comes_14 : decode cX3_comes 14 = .ok (.iload_n 1, 1) := by decide +kernel
theorem dX3_comes_15 : decode cX3_comes 15 = .ok (.tableswitch 289 99 116 #[218, 289, 289, 289, 289, 237, 289, 289, 289, 289, 289, 289, 289, 85, 289, 163, 199, 247], 85) := by decide +kernel
theorem dX3_comes_100 : decode cX3_comes 100 = .ok (.iload_n 2, 1) := by decide +kernel
theorem dX3_comes_101 : decode cX3_comes 101 = .ok (.sipush 240, 3) := by decide +kernel
theorem dX3_comes_104 : decode cX3_comes 104 = .ok (.if_icmp .gt 30, 3) := by decide +kernel
theorem dX3_comes_107 : decode cX3_comes 107 = .ok (.aload_n 0, 1) := by decide +kernel
theorem dX3_comes_108 : decode cX3_comes 108 = .ok (.getfield 9, 3) := by decide +kernel
theorem dX3_comes_111 : decode cX3_comes 111 = .ok (.iconst 0, 1) := by decide +kernel
theorem dX3_comes_112 : decode cX3_comes 112 = .ok (.iaload, 1) := by decide +kernel
theorem dX3_comes_113 : decode cX3_comes 113 = .ok (.bipush 6, 2) := by decide +kernel
theorem dX3_comes_115 : decode cX3_comes 115 = .ok (.if_icmp .eq 19, 3) := by decide +kernel
theorem dX3_comes_118 : decode cX3_comes 118 = .ok (.aload_n 0, 1) := by decide +kernel
theorem dX3_comes_119 : decode cX3_comes 119 = .ok (.getfield 9, 3) := by decide +kernel
theorem dX3_comes_122 : decode cX3_comes 122 = .ok (.iconst 0, 1) := by decide +kernel
theorem dX3_comes_123 : decode cX3_comes 123 = .ok (.iaload, 1) := by decide +kernel
theorem dX3_comes_124 : decode cX3_comes 124 = .ok (.ifCond .le 12, 3) := by decide +kernel
theorem dX3_comes_127 : decode cX3_comes 127 = .ok (.aload_n 0, 1) := by decide +kernel
theorem dX3_comes_128 : decode cX3_comes 128 = .ok (.invokevirtual 110, 3) := by decide +kernel
theorem dX3_comes_131 : decode cX3_comes 131 = .ok (.ifCond .eq 5, 3) := by decide +kernel
theorem dX3_comes_134 : decode cX3_comes 134 = .ok (.iconst 0, 1) := by decide +kernel
theorem dX3_comes_135 : decode cX3_comes 135 = .ok (.ireturn, 1) := by decide +kernel
theorem dX3_comes_136 : decode cX3_comes 136 = .ok (.aload_n 0, 1) := by decide +kernel
theorem dX3_comes_137 : decode cX3_comes 137 = .ok (.getfield 9, 3) := by decide +kernel
theorem dX3_comes_140 : decode cX3_comes 140 = .ok (.bipush 10, 2) := by decide +kernel
theorem dX3_comes_142 : decode cX3_comes 142 = .ok (.aload_n 0, 1) := by decide +kernel
theorem dX3_comes_143 : decode cX3_comes 143 = .ok (.getfield 9, 3) := by decide +kernel
theorem dX3_comes_146 : decode cX3_comes 146 = .ok (.iconst 0, 1) := by decide +kernel
theorem dX3_comes_147 : decode cX3_comes 147 = .ok (.iaload, 1) := by decide +kernel
theorem dX3_comes_148 : decode cX3_comes 148 = .ok (.iadd, 1) := by decide +kernel
theorem dX3_comes_149 : decode cX3_comes 149 = .ok (.iload_n 3, 1) := by decide +kernel
theorem dX3_comes_150 : decode cX3_comes 150 = .ok (.iastore, 1) := by decide +kernel
theorem dX3_comes_151 : decode cX3_comes 151 = .ok (.aload_n 0, 1) := by decide +kernel
theorem dX3_comes_152 : decode cX3_comes 152 = .ok (.getfield 9, 3) := by decide +kernel
theorem dX3_comes_155 : decode cX3_comes 155 = .ok (.bipush 16, 2) := by decide +kernel
theorem dX3_comes_157 : decode cX3_comes 157 = .ok (.aload_n 0, 1) := by decide +kernel
theorem dX3_comes_158 : decode cX3_comes 158 = .ok (.getfield 9, 3) := by decide +kernel
theorem dX3_comes_161 : decode cX3_comes 161 = .ok (.iconst 0, 1) := by decide +kernel
theorem dX3_comes_162 : decode cX3_comes 162 = .ok (.iaload, 1) := by decide +kernel
theorem dX3_comes_163 : decode cX3_comes 163 = .ok (.iadd, 1) := by decide +kernel
theorem dX3_comes_164 : decode cX3_comes 164 = .ok (.iload_n 2, 1) := by decide +kernel
theorem dX3_comes_165 : decode cX3_comes 165 = .ok (.iastore, 1) := by decide +kernel
theorem dX3_comes_166 : decode cX3_comes 166 = .ok (.aload_n 0, 1) := by decide +kernel
theorem dX3_comes_167 : decode cX3_comes 167 = .ok (.getfield 9, 3) := by decide +kernel
theorem dX3_comes_170 : decode cX3_comes 170 = .ok (.iconst 0, 1) := by decide +kernel
theorem dX3_comes_171 : decode cX3_comes 171 = .ok (.dup2, 1) := by decide +kernel
theorem dX3_comes_172 : decode cX3_comes 172 = .ok (.iaload, 1) := by decide +kernel
theorem dX3_comes_173 : decode cX3_comes 173 = .ok (.iconst 1, 1) := by decide +kernel
theorem dX3_comes_174 : decode cX3_comes 174 = .ok (.iadd, 1) := by decide +kernel
theorem dX3_comes_175 : decode cX3_comes 175 = .ok (.iastore, 1) := by decide +kernel
theorem dX3_comes_176 : decode cX3_comes 176 = .ok (.iconst 1, 1) := by decide +kernel
theorem dX3_comes_177 : decode cX3_comes 177 = .ok (.ireturn, 1) := by decide +kernel
theorem dX3_comes_178 : decode cX3_comes 178 = .ok (.aload_n 0, 1) := by decide +kernel
theorem dX3_comes_179 : decode cX3_comes 179 = .ok (.getfield 9, 3) := by decide +kernel
theorem dX3_comes_182 : decode cX3_comes 182 = .ok (.iconst 1, 1) := by decide +kernel
theorem dX3_comes_183 : decode cX3_comes 183 = .ok (.iload_n 2, 1) := by decide +kernel
theorem dX3_comes_184 : decode cX3_comes 184 = .ok (.iastore, 1) := by decide +kernel
theorem dX3_comes_185 : decode cX3_comes 185 = .ok (.aload_n 0, 1) := by decide +kernel
theorem dX3_comes_186 : decode cX3_comes 186 = .ok (.getfield 9, 3) := by decide +kernel
theorem dX3_comes_189 : decode cX3_comes 189 = .ok (.iconst 2, 1) := by decide +kernel
theorem dX3_comes_190 : decode cX3_comes 190 = .ok (.iload_n 3, 1) := by decide +kernel
theorem dX3_comes_191 : decode cX3_comes 191 = .ok (.iastore, 1) := by decide +kernel
theorem dX3_comes_192 : decode cX3_comes 192 = .ok (.iload_n 2, 1) := by decide +kernel
theorem dX3_comes_193 : decode cX3_comes 193 = .ok (.bipush 100, 2) := by decide +kernel
theorem dX3_comes_195 : decode cX3_comes 195 = .ok (.sipush 250, 3) := by decide +kernel
theorem dX3_comes_198 : decode cX3_comes 198 = .ok (.invokestatic 99, 3) := by decide +kernel
theorem dX3_comes_201 : decode cX3_comes 201 = .ok (.ifCond .eq 11, 3) := by decide +kernel
theorem dX3_comes_204 : decode cX3_comes 204 = .ok (.iload_n 3, 1) := by decide +kernel
theorem dX3_comes_205 : decode cX3_comes 205 = .ok (.ifCond .le 7, 3) := by decide +kernel
theorem dX3_comes_208 : decode cX3_comes 208 = .ok (.iconst 1, 1) := by decide +kernel
theorem dX3_comes_209 : decode cX3_comes 209 = .ok (.goto 4, 3) := by decide +kernel
theorem dX3_comes_212 : decode cX3_comes 212 = .ok (.iconst 0, 1) := by decide +kernel
theorem dX3_comes_213 : decode cX3_comes 213 = .ok (.ireturn, 1) := by decide +kernel
theorem dX3_comes_214 : decode cX3_comes 214 = .ok (.aload_n 0, 1) := by decide +kernel
theorem dX3_comes_215 : decode cX3_comes 215 = .ok (.getfield 9, 3) := by decide +kernel
theorem dX3_comes_218 : decode cX3_comes 218 = .ok (.iconst 4, 1) := by decide +kernel
theorem dX3_comes_219 : decode cX3_comes 219 = .ok (.iload_n 2, 1) := by decide +kernel
theorem dX3_comes_220 : decode cX3_comes 220 = .ok (.iastore, 1) := by decide +kernel
theorem dX3_comes_221 : decode cX3_comes 221 = .ok (.iload_n 2, 1) := by decide +kernel
theorem dX3_comes_222 : decode cX3_comes 222 = .ok (.bipush 30, 2) := by decide +kernel
theorem dX3_comes_224 : decode cX3_comes 224 = .ok (.if_icmp .gt 7, 3) := by decide +kernel
theorem dX3_comes_227 : decode cX3_comes 227 = .ok (.iconst 1, 1) := by decide +kernel
theorem dX3_comes_228 : decode cX3_comes 228 = .ok (.goto 4, 3) := by decide +kernel
theorem dX3_comes_231 : decode cX3_comes 231 = .ok (.iconst 0, 1) := by decide +kernel
theorem dX3_comes_232 : decode cX3_comes 232 = .ok (.ireturn, 1) := by decide +kernel
theorem dX3_comes_233 : decode cX3_comes 233 = .ok (.aload_n 0, 1) := by decide +kernel
theorem dX3_comes_234 : decode cX3_comes 234 = .ok (.getfield 9, 3) := by decide +kernel
theorem dX3_comes_237 : decode cX3_comes 237 = .ok (.iconst 5, 1) := by decide +kernel
theorem dX3_comes_238 : decode cX3_comes 238 = .ok (.iload_n 2, 1) := by decide +kernel
theorem dX3_comes_239 : decode cX3_comes 239 = .ok (.iastore, 1) := by decide +kernel
theorem dX3_comes_240 : decode cX3_comes 240 = .ok (.iload_n 2, 1) := by decide +kernel
theorem dX3_comes_241 : decode cX3_comes 241 = .ok (.bipush 20, 2) := by decide +kernel
theorem dX3_comes_243 : decode cX3_comes 243 = .ok (.if_icmp .gt 7, 3) := by decide +kernel
theorem dX3_comes_246 : decode cX3_comes 246 = .ok (.iconst 1, 1) := by decide +kernel
theorem dX3_comes_247 : decode cX3_comes 247 = .ok (.goto 4, 3) := by decide +kernel
theorem dX3_comes_250 : decode cX3_comes 250 = .ok (.iconst 0, 1) := by decide +kernel
theorem dX3_comes_251 : decode cX3_comes 251 = .ok (.ireturn, 1) := by decide +kernel
theorem dX3_comes_252 : decode cX3_comes 252 = .ok (.aload_n 0, 1) := by decide +kernel
theorem dX3_comes_253 : decode cX3_comes 253 = .ok (.getfield 9, 3) := by decide +kernel
theorem dX3_comes_256 : decode cX3_comes 256 = .ok (.bipush 7, 2) := by decide +kernel
theorem dX3_comes_258 : decode cX3_comes 258 = .ok (.iload_n 2, 1) := by decide +kernel
theorem dX3_comes_259 : decode cX3_comes 259 = .ok (.iastore, 1) := by decide +kernel
theorem dX3_comes_260 : decode cX3_comes 260 = .ok (.iconst 1, 1) := by decide +kernel
theorem dX3_comes_261 : decode cX3_comes 261 = .ok (.ireturn, 1) := by decide +kernel
theorem dX3_comes_262 : decode cX3_comes 262 = .ok (.iload_n 2, 1) := by decide +kernel
theorem dX3_comes_263 : decode cX3_comes 263 = .ok (.bipush 7, 2) := by decide +kernel
theorem dX3_comes_265 : decode cX3_comes 265 = .ok (.if_icmp .ge 28, 3) := by decide +kernel
theorem dX3_comes_268 : decode cX3_comes 268 = .ok (.aload_n 0, 1) := by decide +kernel
theorem dX3_comes_269 : decode cX3_comes 269 = .ok (.invokevirtual 110, 3) := by decide +kernel
theorem dX3_comes_272 : decode cX3_comes 272 = .ok (.ifCond .ne 21, 3) := by decide +kernel
theorem dX3_comes_275 : decode cX3_comes 275 = .ok (.aload_n 0, 1) := by decide +kernel
theorem dX3_comes_276 : decode cX3_comes 276 = .ok (.getfield 9, 3) := by decide +kernel
theorem dX3_comes_279 : decode cX3_comes 279 = .ok (.bipush 8, 2) := by decide +kernel
theorem dX3_comes_281 : decode cX3_comes 281 = .ok (.iaload, 1) := by decide +kernel
theorem dX3_comes_282 : decode cX3_comes 282 = .ok (.iload_n 2, 1) := by decide +kernel
theorem dX3_comes_283 : decode cX3_comes 283 = .ok (.invokestatic 77, 3) := by decide +kernel
theorem dX3_comes_286 : decode cX3_comes 286 = .ok (.iadd, 1) := by decide +kernel
theorem dX3_comes_287 : decode cX3_comes 287 = .ok (.sipush 999, 3) := by decide +kernel
theorem dX3_comes_290 : decode cX3_comes 290 = .ok (.if_icmp .le 5, 3) := by decide +kernel
theorem dX3_comes_293 : decode cX3_comes 293 = .ok (.iconst 0, 1) := by decide +kernel
theorem dX3_comes_294 : decode cX3_comes 294 = .ok (.ireturn, 1) := by decide +kernel
theorem dX3_comes_295 : decode cX3_comes 295 = .ok (.aload_n 0, 1) := by decide +kernel
theorem dX3_comes_296 : decode cX3_comes 296 = .ok (.iload_n 2, 1) := by decide +kernel
theorem dX3_comes_297 : decode cX3_comes 297 = .ok (.invokevirtual 114, 3) := by decide +kernel
theorem dX3_comes_300 : decode cX3_comes 300 = .ok (.istore 4, 2) := by decide +kernel
theorem dX3_comes_302 : decode cX3_comes 302 = .ok (.iconst 1, 1) := by decide +kernel
theorem dX3_comes_303 : decode cX3_comes 303 = .ok (.ireturn, 1) := by decide +kernel
theorem dX3_comes_304 : decode cX3_comes 304 = .ok (.iload_n 2, 1) := by decide +kernel
theorem dX3_comes_305 : decode cX3_comes 305 = .ok (.iconst 1, 1) := by decide +kernel
theorem dX3_comes_306 : decode cX3_comes 306 = .ok (.bipush 60, 2) := by decide +kernel
theorem dX3_comes_308 : decode cX3_comes 308 = .ok (.invokestatic 99, 3) := by decide +kernel
theorem dX3_comes_311 : decode cX3_comes 311 = .ok (.ifCond .eq 18, 3) := by decide +kernel
theorem dX3_comes_314 : decode cX3_comes 314 = .ok (.aload_n 0, 1) := by decide +kernel
theorem dX3_comes_315 : decode cX3_comes 315 = .ok (.getfield 9, 3) := by decide +kernel
theorem dX3_comes_318 : decode cX3_comes 318 = .ok (.bipush 8, 2) := by decide +kernel
theorem dX3_comes_320 : decode cX3_comes 320 = .ok (.iaload, 1) := by decide +kernel
theorem dX3_comes_321 : decode cX3_comes 321 = .ok (.iload_n 2, 1) := by decide +kernel
theorem dX3_comes_322 : decode cX3_comes 322 = .ok (.iadd, 1) := by decide +kernel
theorem dX3_comes_323 : decode cX3_comes 323 = .ok (.sipush 999, 3) := by decide +kernel
theorem dX3_comes_326 : decode cX3_comes 326 = .ok (.if_icmp .le 5, 3) := by decide +kernel
theorem dX3_comes_329 : decode cX3_comes 329 = .ok (.iconst 0, 1) := by decide +kernel
theorem dX3_comes_330 : decode cX3_comes 330 = .ok (.ireturn, 1) := by decide +kernel
theorem dX3_comes_331 : decode cX3_comes 331 = .ok (.aload_n 0, 1) := by decide +kernel
theorem dX3_comes_332 : decode cX3_comes 332 = .ok (.iload_n 2, 1) := by decide +kernel
theorem dX3_comes_333 : decode cX3_comes 333 = .ok (.invokevirtual 117, 3) := by decide +kernel
theorem dX3_comes_336 : decode cX3_comes 336 = .ok (.iconst 1, 1) := by decide +kernel
theorem dX3_comes_337 : decode cX3_comes 337 = .ok (.ireturn, 1) := by decide +kernel
set_option maxRecDepth 20000 in
theorem ggX3_hand_X3_readsStatement : GoodIn wsX3_hand wsX3_readsStatement := goodIn_r _ [9, 1, 10, 11, 12, 13, 8, 14, 2, 15, 16, 17, 18, 19, 20, 21, 22, 23, 24, 25, 86, 87, 88, 89, 90, 91, 92, 93, 94, 95, 96, 97, 98, 99, 100, 101] (by decide +kernel) (by decide +kernel)
set_option maxRecDepth 20000 in
theorem gX3_hand_X3_readsStatement : GoodIn wsX3_hand (wsV RX3 120 RX3 yX3_readsStatement wsX3_readsStatement) := goodIn_app (goodIn_of _ (by decide +kernel)) ggX3_hand_X3_readsStatement
set_option maxRecDepth 20000 in
theorem ggX3_hand_X3_lays : GoodIn wsX3_hand wsX3_lays := goodIn_r _ [28] (by decide +kernel) (by decide +kernel)
set_option maxRecDepth 20000 in
theorem gX3_hand_X3_lays : GoodIn wsX3_hand (va_wsS RX3 37 yX3_lays wsX3_lays) := goodIn_app (goodIn_of _ (by decide +kernel)) ggX3_hand_X3_lays
set_option maxRecDepth 20000 in
theorem ggX3_hand_X3_here : GoodIn wsX3_hand wsX3_here := goodIn_r _ [14, 1, 2, 15, 86, 87, 88, 89, 90, 91, 92, 93, 94, 95, 96, 97, 98, 99, 100, 101] (by decide +kernel) (by decide +kernel)
set_option maxRecDepth 20000 in
theorem gX3_hand_X3_here : GoodIn wsX3_hand (wsV RX3 95 RX3 yX3_here wsX3_here) := goodIn_app (goodIn_of _ (by decide +kernel)) ggX3_hand_X3_here
set_option maxRecDepth 20000 in
theorem ggX3_hand_X3_comes : GoodIn wsX3_hand wsX3_comes := goodIn_r _ [32, 10, 3, 33, 34, 35, 8, 36, 23, 24, 25, 37, 38, 39, 40, 41, 42, 43, 44, 45, 46, 47, 48, 49, 50, 51, 52, 53, 54, 55, 56, 57, 58, 59, 60, 61, 62, 63, 64, 65, 66, 67, 68, 69, 70, 71, 72, 73, 74, 75, 76, 77, 78, 79, 80, 81, 82, 83, 84, 85, 86, 87, 88, 89, 90, 91, 92, 93, 94, 95, 96, 97, 98, 99, 100, 101] (by decide +kernel) (by decide +kernel)
set_option maxRecDepth 20000 in
theorem gX3_hand_X3_comes : GoodIn wsX3_hand (wsV RX3 123 RX3 yX3_comes wsX3_comes) := goodIn_app (goodIn_of _ (by decide +kernel)) ggX3_hand_X3_comes
theorem dX3_hand_0 : decode cX3_hand 0 = .ok (.aload_n 0, 1) := by decide +kernel
theorem dX3_hand_1 : decode cX3_hand 1 = .ok (.iconst 0, 1) := by decide +kernel
theorem dX3_hand_2 : decode cX3_hand 2 = .ok (.putfield 92, 3) := by decide +kernel
theorem dX3_hand_5 : decode cX3_hand 5 = .ok (.iconst 0, 1) := by decide +kernel
theorem dX3_hand_6 : decode cX3_hand 6 = .ok (.istore_n 1, 1) := by decide +kernel
theorem dX3_hand_7 : decode cX3_hand 7 = .ok (.bipush (-9), 2) := by decide +kernel
theorem dX3_hand_9 : decode cX3_hand 9 = .ok (.istore_n 2, 1) := by decide +kernel
theorem dX3_hand_10 : decode cX3_hand 10 = .ok (.aload_n 0, 1) := by decide +kernel
theorem dX3_hand_11 : decode cX3_hand 11 = .ok (.invokevirtual 120, 3) := by decide +kernel
theorem dX3_hand_14 : decode cX3_hand 14 = .ok (.ifCond .ne 12, 3) := by decide +kernel
theorem dX3_hand_17 : decode cX3_hand 17 = .ok (.sipush (-1000), 3) := by decide +kernel
theorem dX3_hand_20 : decode cX3_hand 20 = .ok (.aload_n 0, 1) := by decide +kernel
theorem dX3_hand_21 : decode cX3_hand 21 = .ok (.getfield 92, 3) := by decide +kernel
theorem dX3_hand_24 : decode cX3_hand 24 = .ok (.isub, 1) := by decide +kernel
theorem dX3_hand_25 : decode cX3_hand 25 = .ok (.istore_n 2, 1) := by decide +kernel
theorem dX3_hand_26 : decode cX3_hand 26 = .ok (.iinc 1 1, 3) := by decide +kernel
theorem dX3_hand_29 : decode cX3_hand 29 = .ok (.iload_n 2, 1) := by decide +kernel
theorem dX3_hand_30 : decode cX3_hand 30 = .ok (.bipush (-9), 2) := by decide +kernel
theorem dX3_hand_32 : decode cX3_hand 32 = .ok (.if_icmp .ne 14, 3) := by decide +kernel
theorem dX3_hand_35 : decode cX3_hand 35 = .ok (.aload_n 0, 1) := by decide +kernel
theorem dX3_hand_36 : decode cX3_hand 36 = .ok (.getfield 92, 3) := by decide +kernel
theorem dX3_hand_39 : decode cX3_hand 39 = .ok (.aload_n 0, 1) := by decide +kernel
theorem dX3_hand_40 : decode cX3_hand 40 = .ok (.getfield 88, 3) := by decide +kernel
theorem dX3_hand_43 : decode cX3_hand 43 = .ok (.if_icmp .lt (-33), 3) := by decide +kernel
theorem dX3_hand_46 : decode cX3_hand 46 = .ok (.aload_n 0, 1) := by decide +kernel
theorem dX3_hand_47 : decode cX3_hand 47 = .ok (.getfield 9, 3) := by decide +kernel
theorem dX3_hand_50 : decode cX3_hand 50 = .ok (.aload_n 0, 1) := by decide +kernel
theorem dX3_hand_51 : decode cX3_hand 51 = .ok (.getfield 16, 3) := by decide +kernel
theorem dX3_hand_54 : decode cX3_hand 54 = .ok (.invokestatic 37, 3) := by decide +kernel
theorem dX3_hand_57 : decode cX3_hand 57 = .ok (.aload_n 0, 1) := by decide +kernel
theorem dX3_hand_58 : decode cX3_hand 58 = .ok (.iconst 0, 1) := by decide +kernel
theorem dX3_hand_59 : decode cX3_hand 59 = .ok (.putfield 92, 3) := by decide +kernel
theorem dX3_hand_62 : decode cX3_hand 62 = .ok (.iload_n 2, 1) := by decide +kernel
theorem dX3_hand_63 : decode cX3_hand 63 = .ok (.bipush (-9), 2) := by decide +kernel
theorem dX3_hand_65 : decode cX3_hand 65 = .ok (.if_icmp .ne 63, 3) := by decide +kernel
theorem dX3_hand_68 : decode cX3_hand 68 = .ok (.aload_n 0, 1) := by decide +kernel
theorem dX3_hand_69 : decode cX3_hand 69 = .ok (.getfield 92, 3) := by decide +kernel
theorem dX3_hand_72 : decode cX3_hand 72 = .ok (.aload_n 0, 1) := by decide +kernel
theorem dX3_hand_73 : decode cX3_hand 73 = .ok (.getfield 88, 3) := by decide +kernel
theorem dX3_hand_76 : decode cX3_hand 76 = .ok (.if_icmp .ge 52, 3) := by decide +kernel
theorem dX3_hand_79 : decode cX3_hand 79 = .ok (.aload_n 0, 1) := by decide +kernel
theorem dX3_hand_80 : decode cX3_hand 80 = .ok (.getfield 92, 3) := by decide +kernel
theorem dX3_hand_83 : decode cX3_hand 83 = .ok (.istore_n 3, 1) := by decide +kernel
theorem dX3_hand_84 : decode cX3_hand 84 = .ok (.aload_n 0, 1) := by decide +kernel
theorem dX3_hand_85 : decode cX3_hand 85 = .ok (.invokevirtual 95, 3) := by decide +kernel
theorem dX3_hand_88 : decode cX3_hand 88 = .ok (.istore 4, 2) := by decide +kernel
theorem dX3_hand_90 : decode cX3_hand 90 = .ok (.aload_n 0, 1) := by decide +kernel
theorem dX3_hand_91 : decode cX3_hand 91 = .ok (.invokevirtual 120, 3) := by decide +kernel
theorem dX3_hand_94 : decode cX3_hand 94 = .ok (.istore 5, 2) := by decide +kernel
theorem dX3_hand_96 : decode cX3_hand 96 = .ok (.aload_n 0, 1) := by decide +kernel
theorem dX3_hand_97 : decode cX3_hand 97 = .ok (.iload 4, 2) := by decide +kernel
theorem dX3_hand_99 : decode cX3_hand 99 = .ok (.invokevirtual 123, 3) := by decide +kernel
theorem dX3_hand_102 : decode cX3_hand 102 = .ok (.ifCond .eq 6, 3) := by decide +kernel
theorem dX3_hand_105 : decode cX3_hand 105 = .ok (.goto (-43), 3) := by decide +kernel
theorem dX3_hand_108 : decode cX3_hand 108 = .ok (.sipush (-2000), 3) := by decide +kernel
theorem dX3_hand_111 : decode cX3_hand 111 = .ok (.iload_n 3, 1) := by decide +kernel
theorem dX3_hand_112 : decode cX3_hand 112 = .ok (.isub, 1) := by decide +kernel
theorem dX3_hand_113 : decode cX3_hand 113 = .ok (.istore_n 2, 1) := by decide +kernel
theorem dX3_hand_114 : decode cX3_hand 114 = .ok (.aload_n 0, 1) := by decide +kernel
theorem dX3_hand_115 : decode cX3_hand 115 = .ok (.getfield 16, 3) := by decide +kernel
theorem dX3_hand_118 : decode cX3_hand 118 = .ok (.aload_n 0, 1) := by decide +kernel
theorem dX3_hand_119 : decode cX3_hand 119 = .ok (.getfield 9, 3) := by decide +kernel
theorem dX3_hand_122 : decode cX3_hand 122 = .ok (.invokestatic 37, 3) := by decide +kernel
theorem dX3_hand_125 : decode cX3_hand 125 = .ok (.goto (-63), 3) := by decide +kernel
theorem dX3_hand_128 : decode cX3_hand 128 = .ok (.aload_n 0, 1) := by decide +kernel
theorem dX3_hand_129 : decode cX3_hand 129 = .ok (.iconst 0, 1) := by decide +kernel
theorem dX3_hand_130 : decode cX3_hand 130 = .ok (.putfield 88, 3) := by decide +kernel
theorem dX3_hand_133 : decode cX3_hand 133 = .ok (.iload_n 2, 1) := by decide +kernel
theorem dX3_hand_134 : decode cX3_hand 134 = .ok (.bipush (-9), 2) := by decide +kernel
theorem dX3_hand_136 : decode cX3_hand 136 = .ok (.if_icmp .ne 7, 3) := by decide +kernel
theorem dX3_hand_139 : decode cX3_hand 139 = .ok (.iload_n 1, 1) := by decide +kernel
theorem dX3_hand_140 : decode cX3_hand 140 = .ok (.goto 4, 3) := by decide +kernel
theorem dX3_hand_143 : decode cX3_hand 143 = .ok (.iload_n 2, 1) := by decide +kernel
theorem dX3_hand_144 : decode cX3_hand 144 = .ok (.ireturn, 1) := by decide +kernel
set_option maxRecDepth 20000 in
theorem ggX3_part_X3_isIn : GoodIn wsX3_part wsX3_isIn := goodIn_r _ [5] (by decide +kernel) (by decide +kernel)
set_option maxRecDepth 20000 in
theorem gX3_part_X3_isIn : GoodIn wsX3_part (va_wsS RX3 99 yX3_isIn wsX3_isIn) := goodIn_app (goodIn_of _ (by decide +kernel)) ggX3_part_X3_isIn
set_option maxRecDepth 20000 in
theorem ggX3_part_X3_no : GoodIn wsX3_part wsX3_no := goodIn_r _ [9, 10, 25, 26, 27, 28, 29, 30, 31, 32, 33, 34, 35, 36, 37, 38, 39, 40] (by decide +kernel) (by decide +kernel)
set_option maxRecDepth 20000 in
theorem gX3_part_X3_no : GoodIn wsX3_part (wsV RX3 42 RX3 yX3_no wsX3_no) := goodIn_app (goodIn_of _ (by decide +kernel)) ggX3_part_X3_no
set_option maxRecDepth 20000 in
theorem ggX3_part_X3_nowOf : GoodIn wsX3_part wsX3_nowOf := goodIn_r _ [14, 1, 15, 16, 17, 4, 18, 19, 20, 21, 22, 23, 24, 25, 26, 27, 28, 29, 30, 31, 32, 33, 34, 35, 36, 37, 38, 39, 40] (by decide +kernel) (by decide +kernel)
set_option maxRecDepth 20000 in
theorem gX3_part_X3_nowOf : GoodIn wsX3_part (wsV RX3 126 RX3 yX3_nowOf wsX3_nowOf) := goodIn_app (goodIn_of _ (by decide +kernel)) ggX3_part_X3_nowOf
theorem dX3_part_0 : decode cX3_part 0 = .ok (.iload_n 1, 1) := by decide +kernel
theorem dX3_part_1 : decode cX3_part 1 = .ok (.iconst 0, 1) := by decide +kernel
theorem dX3_part_2 : decode cX3_part 2 = .ok (.aload_n 0, 1) := by decide +kernel
theorem dX3_part_3 : decode cX3_part 3 = .ok (.getfield 9, 3) := by decide +kernel
theorem dX3_part_6 : decode cX3_part 6 = .ok (.iconst 0, 1) := by decide +kernel
theorem dX3_part_7 : decode cX3_part 7 = .ok (.iaload, 1) := by decide +kernel
theorem dX3_part_8 : decode cX3_part 8 = .ok (.iconst 1, 1) := by decide +kernel
theorem dX3_part_9 : decode cX3_part 9 = .ok (.isub, 1) := by decide +kernel
theorem dX3_part_10 : decode cX3_part 10 = .ok (.invokestatic 99, 3) := by decide +kernel
theorem dX3_part_13 : decode cX3_part 13 = .ok (.ifCond .ne 9, 3) := by decide +kernel
theorem dX3_part_16 : decode cX3_part 16 = .ok (.aload_n 0, 1) := by decide +kernel
theorem dX3_part_17 : decode cX3_part 17 = .ok (.iconst (-1), 1) := by decide +kernel
theorem dX3_part_18 : decode cX3_part 18 = .ok (.invokevirtual 42, 3) := by decide +kernel
theorem dX3_part_21 : decode cX3_part 21 = .ok (.ireturn, 1) := by decide +kernel
theorem dX3_part_22 : decode cX3_part 22 = .ok (.iload_n 2, 1) := by decide +kernel
theorem dX3_part_23 : decode cX3_part 23 = .ok (.ifCond .ne 15, 3) := by decide +kernel
theorem dX3_part_26 : decode cX3_part 26 = .ok (.aload_n 0, 1) := by decide +kernel
theorem dX3_part_27 : decode cX3_part 27 = .ok (.getfield 9, 3) := by decide +kernel
theorem dX3_part_30 : decode cX3_part 30 = .ok (.bipush 10, 2) := by decide +kernel
theorem dX3_part_32 : decode cX3_part 32 = .ok (.iload_n 1, 1) := by decide +kernel
theorem dX3_part_33 : decode cX3_part 33 = .ok (.iadd, 1) := by decide +kernel
theorem dX3_part_34 : decode cX3_part 34 = .ok (.iaload, 1) := by decide +kernel
theorem dX3_part_35 : decode cX3_part 35 = .ok (.goto 39, 3) := by decide +kernel
theorem dX3_part_38 : decode cX3_part 38 = .ok (.iload_n 2, 1) := by decide +kernel
theorem dX3_part_39 : decode cX3_part 39 = .ok (.iconst 1, 1) := by decide +kernel
theorem dX3_part_40 : decode cX3_part 40 = .ok (.if_icmp .ne 15, 3) := by decide +kernel
theorem dX3_part_43 : decode cX3_part 43 = .ok (.aload_n 0, 1) := by decide +kernel
theorem dX3_part_44 : decode cX3_part 44 = .ok (.getfield 9, 3) := by decide +kernel
theorem dX3_part_47 : decode cX3_part 47 = .ok (.bipush 16, 2) := by decide +kernel
theorem dX3_part_49 : decode cX3_part 49 = .ok (.iload_n 1, 1) := by decide +kernel
theorem dX3_part_50 : decode cX3_part 50 = .ok (.iadd, 1) := by decide +kernel
theorem dX3_part_51 : decode cX3_part 51 = .ok (.iaload, 1) := by decide +kernel
theorem dX3_part_52 : decode cX3_part 52 = .ok (.goto 22, 3) := by decide +kernel
theorem dX3_part_55 : decode cX3_part 55 = .ok (.iload_n 2, 1) := by decide +kernel
theorem dX3_part_56 : decode cX3_part 56 = .ok (.iconst 2, 1) := by decide +kernel
theorem dX3_part_57 : decode cX3_part 57 = .ok (.if_icmp .ne 11, 3) := by decide +kernel
theorem dX3_part_60 : decode cX3_part 60 = .ok (.aload_n 0, 1) := by decide +kernel
theorem dX3_part_61 : decode cX3_part 61 = .ok (.iload_n 1, 1) := by decide +kernel
theorem dX3_part_62 : decode cX3_part 62 = .ok (.invokevirtual 126, 3) := by decide +kernel
theorem dX3_part_65 : decode cX3_part 65 = .ok (.goto 9, 3) := by decide +kernel
theorem dX3_part_68 : decode cX3_part 68 = .ok (.aload_n 0, 1) := by decide +kernel
theorem dX3_part_69 : decode cX3_part 69 = .ok (.bipush (-2), 2) := by decide +kernel
theorem dX3_part_71 : decode cX3_part 71 = .ok (.invokevirtual 42, 3) := by decide +kernel
theorem dX3_part_74 : decode cX3_part 74 = .ok (.ireturn, 1) := by decide +kernel
theorem dX3_placeOf_0 : decode cX3_placeOf 0 = .ok (.iload_n 0, 1) := by decide +kernel
theorem dX3_placeOf_1 : decode cX3_placeOf 1 = .ok (.ifCond .ne 7, 3) := by decide +kernel
theorem dX3_placeOf_4 : decode cX3_placeOf 4 = .ok (.iconst 1, 1) := by decide +kernel
theorem dX3_placeOf_5 : decode cX3_placeOf 5 = .ok (.goto 32, 3) := by decide +kernel
theorem dX3_placeOf_8 : decode cX3_placeOf 8 = .ok (.iload_n 0, 1) := by decide +kernel
theorem dX3_placeOf_9 : decode cX3_placeOf 9 = .ok (.iconst 1, 1) := by decide +kernel
theorem dX3_placeOf_10 : decode cX3_placeOf 10 = .ok (.if_icmp .ne 7, 3) := by decide +kernel
theorem dX3_placeOf_13 : decode cX3_placeOf 13 = .ok (.iconst 2, 1) := by decide +kernel
theorem dX3_placeOf_14 : decode cX3_placeOf 14 = .ok (.goto 23, 3) := by decide +kernel
theorem dX3_placeOf_17 : decode cX3_placeOf 17 = .ok (.iload_n 0, 1) := by decide +kernel
theorem dX3_placeOf_18 : decode cX3_placeOf 18 = .ok (.iconst 2, 1) := by decide +kernel
theorem dX3_placeOf_19 : decode cX3_placeOf 19 = .ok (.if_icmp .ne 7, 3) := by decide +kernel
theorem dX3_placeOf_22 : decode cX3_placeOf 22 = .ok (.iconst 4, 1) := by decide +kernel
theorem dX3_placeOf_23 : decode cX3_placeOf 23 = .ok (.goto 14, 3) := by decide +kernel
theorem dX3_placeOf_26 : decode cX3_placeOf 26 = .ok (.iload_n 0, 1) := by decide +kernel
theorem dX3_placeOf_27 : decode cX3_placeOf 27 = .ok (.iconst 3, 1) := by decide +kernel
theorem dX3_placeOf_28 : decode cX3_placeOf 28 = .ok (.if_icmp .ne 7, 3) := by decide +kernel
theorem dX3_placeOf_31 : decode cX3_placeOf 31 = .ok (.iconst 5, 1) := by decide +kernel
theorem dX3_placeOf_32 : decode cX3_placeOf 32 = .ok (.goto 5, 3) := by decide +kernel
theorem dX3_placeOf_35 : decode cX3_placeOf 35 = .ok (.bipush 7, 2) := by decide +kernel
theorem dX3_placeOf_37 : decode cX3_placeOf 37 = .ok (.ireturn, 1) := by decide +kernel
set_option maxRecDepth 20000 in
theorem ggX3_set_X3_isIn : GoodIn wsX3_set wsX3_isIn := goodIn_r _ [5] (by decide +kernel) (by decide +kernel)
set_option maxRecDepth 20000 in
theorem gX3_set_X3_isIn : GoodIn wsX3_set (va_wsS RX3 99 yX3_isIn wsX3_isIn) := goodIn_app (goodIn_of _ (by decide +kernel)) ggX3_set_X3_isIn
set_option maxRecDepth 20000 in
theorem ggX3_set_X3_no : GoodIn wsX3_set wsX3_no := goodIn_r _ [9, 10, 14, 15, 16, 17, 18, 19, 20, 21, 22, 23, 24, 25, 26, 27, 28, 29] (by decide +kernel) (by decide +kernel)
set_option maxRecDepth 20000 in
theorem gX3_set_X3_no : GoodIn wsX3_set (wsV RX3 42 RX3 yX3_no wsX3_no) := goodIn_app (goodIn_of _ (by decide +kernel)) ggX3_set_X3_no
set_option maxRecDepth 20000 in
theorem ggX3_set_X3_placeOf : GoodIn wsX3_set wsX3_placeOf := goodIn_r _ [13] (by decide +kernel) (by decide +kernel)
set_option maxRecDepth 20000 in
theorem gX3_set_X3_placeOf : GoodIn wsX3_set (va_wsS RX3 129 yX3_placeOf wsX3_placeOf) := goodIn_app (goodIn_of _ (by decide +kernel)) ggX3_set_X3_placeOf
theorem dX3_set_0 : decode cX3_set 0 = .ok (.iload_n 1, 1) := by decide +kernel
theorem dX3_set_1 : decode cX3_set 1 = .ok (.iconst 0, 1) := by decide +kernel
theorem dX3_set_2 : decode cX3_set 2 = .ok (.iconst 4, 1) := by decide +kernel
theorem dX3_set_3 : decode cX3_set 3 = .ok (.invokestatic 99, 3) := by decide +kernel
theorem dX3_set_6 : decode cX3_set 6 = .ok (.ifCond .ne 10, 3) := by decide +kernel
theorem dX3_set_9 : decode cX3_set 9 = .ok (.aload_n 0, 1) := by decide +kernel
theorem dX3_set_10 : decode cX3_set 10 = .ok (.bipush (-2), 2) := by decide +kernel
theorem dX3_set_12 : decode cX3_set 12 = .ok (.invokevirtual 42, 3) := by decide +kernel
theorem dX3_set_15 : decode cX3_set 15 = .ok (.ireturn, 1) := by decide +kernel
theorem dX3_set_16 : decode cX3_set 16 = .ok (.iload_n 1, 1) := by decide +kernel
theorem dX3_set_17 : decode cX3_set 17 = .ok (.ifCond .ne 8, 3) := by decide +kernel
theorem dX3_set_20 : decode cX3_set 20 = .ok (.bipush 100, 2) := by decide +kernel
theorem dX3_set_22 : decode cX3_set 22 = .ok (.goto 13, 3) := by decide +kernel
theorem dX3_set_25 : decode cX3_set 25 = .ok (.iload_n 1, 1) := by decide +kernel
theorem dX3_set_26 : decode cX3_set 26 = .ok (.iconst 1, 1) := by decide +kernel
theorem dX3_set_27 : decode cX3_set 27 = .ok (.if_icmp .ne 7, 3) := by decide +kernel
theorem dX3_set_30 : decode cX3_set 30 = .ok (.iconst 1, 1) := by decide +kernel
theorem dX3_set_31 : decode cX3_set 31 = .ok (.goto 4, 3) := by decide +kernel
theorem dX3_set_34 : decode cX3_set 34 = .ok (.iconst 0, 1) := by decide +kernel
theorem dX3_set_35 : decode cX3_set 35 = .ok (.istore_n 3, 1) := by decide +kernel
theorem dX3_set_36 : decode cX3_set 36 = .ok (.iload_n 1, 1) := by decide +kernel
theorem dX3_set_37 : decode cX3_set 37 = .ok (.ifCond .ne 9, 3) := by decide +kernel
theorem dX3_set_40 : decode cX3_set 40 = .ok (.sipush 250, 3) := by decide +kernel
theorem dX3_set_43 : decode cX3_set 43 = .ok (.goto 25, 3) := by decide +kernel
theorem dX3_set_46 : decode cX3_set 46 = .ok (.iload_n 1, 1) := by decide +kernel
theorem dX3_set_47 : decode cX3_set 47 = .ok (.iconst 2, 1) := by decide +kernel
theorem dX3_set_48 : decode cX3_set 48 = .ok (.if_icmp .ne 8, 3) := by decide +kernel
theorem dX3_set_51 : decode cX3_set 51 = .ok (.bipush 30, 2) := by decide +kernel
theorem dX3_set_53 : decode cX3_set 53 = .ok (.goto 15, 3) := by decide +kernel
theorem dX3_set_56 : decode cX3_set 56 = .ok (.iload_n 1, 1) := by decide +kernel
theorem dX3_set_57 : decode cX3_set 57 = .ok (.iconst 3, 1) := by decide +kernel
theorem dX3_set_58 : decode cX3_set 58 = .ok (.if_icmp .ne 8, 3) := by decide +kernel
theorem dX3_set_61 : decode cX3_set 61 = .ok (.bipush 20, 2) := by decide +kernel
theorem dX3_set_63 : decode cX3_set 63 = .ok (.goto 5, 3) := by decide +kernel
theorem dX3_set_66 : decode cX3_set 66 = .ok (.bipush 9, 2) := by decide +kernel
theorem dX3_set_68 : decode cX3_set 68 = .ok (.istore 4, 2) := by decide +kernel
theorem dX3_set_70 : decode cX3_set 70 = .ok (.iload_n 2, 1) := by decide +kernel
theorem dX3_set_71 : decode cX3_set 71 = .ok (.iload_n 3, 1) := by decide +kernel
theorem dX3_set_72 : decode cX3_set 72 = .ok (.if_icmp .ge 10, 3) := by decide +kernel
theorem dX3_set_75 : decode cX3_set 75 = .ok (.aload_n 0, 1) := by decide +kernel
theorem dX3_set_76 : decode cX3_set 76 = .ok (.bipush (-4), 2) := by decide +kernel
theorem dX3_set_78 : decode cX3_set 78 = .ok (.invokevirtual 42, 3) := by decide +kernel
theorem dX3_set_81 : decode cX3_set 81 = .ok (.ireturn, 1) := by decide +kernel
theorem dX3_set_82 : decode cX3_set 82 = .ok (.iload_n 2, 1) := by decide +kernel
theorem dX3_set_83 : decode cX3_set 83 = .ok (.iload 4, 2) := by decide +kernel
theorem dX3_set_85 : decode cX3_set 85 = .ok (.if_icmp .le 10, 3) := by decide +kernel
theorem dX3_set_88 : decode cX3_set 88 = .ok (.aload_n 0, 1) := by decide +kernel
theorem dX3_set_89 : decode cX3_set 89 = .ok (.bipush (-6), 2) := by decide +kernel
theorem dX3_set_91 : decode cX3_set 91 = .ok (.invokevirtual 42, 3) := by decide +kernel
theorem dX3_set_94 : decode cX3_set 94 = .ok (.ireturn, 1) := by decide +kernel
theorem dX3_set_95 : decode cX3_set 95 = .ok (.aload_n 0, 1) := by decide +kernel
theorem dX3_set_96 : decode cX3_set 96 = .ok (.getfield 9, 3) := by decide +kernel
theorem dX3_set_99 : decode cX3_set 99 = .ok (.iload_n 1, 1) := by decide +kernel
theorem dX3_set_100 : decode cX3_set 100 = .ok (.invokestatic 129, 3) := by decide +kernel
theorem dX3_set_103 : decode cX3_set 103 = .ok (.iaload, 1) := by decide +kernel
theorem dX3_set_104 : decode cX3_set 104 = .ok (.istore 5, 2) := by decide +kernel
theorem dX3_set_106 : decode cX3_set 106 = .ok (.aload_n 0, 1) := by decide +kernel
theorem dX3_set_107 : decode cX3_set 107 = .ok (.getfield 9, 3) := by decide +kernel
theorem dX3_set_110 : decode cX3_set 110 = .ok (.iload_n 1, 1) := by decide +kernel
theorem dX3_set_111 : decode cX3_set 111 = .ok (.invokestatic 129, 3) := by decide +kernel
theorem dX3_set_114 : decode cX3_set 114 = .ok (.iload_n 2, 1) := by decide +kernel
theorem dX3_set_115 : decode cX3_set 115 = .ok (.iastore, 1) := by decide +kernel
theorem dX3_set_116 : decode cX3_set 116 = .ok (.iload 5, 2) := by decide +kernel
theorem dX3_set_118 : decode cX3_set 118 = .ok (.ireturn, 1) := by decide +kernel
theorem dX3_back_0 : decode cX3_back 0 = .ok (.aload_n 0, 1) := by decide +kernel
theorem dX3_back_1 : decode cX3_back 1 = .ok (.getfield 9, 3) := by decide +kernel
theorem dX3_back_4 : decode cX3_back 4 = .ok (.iconst 3, 1) := by decide +kernel
theorem dX3_back_5 : decode cX3_back 5 = .ok (.iaload, 1) := by decide +kernel
theorem dX3_back_6 : decode cX3_back 6 = .ok (.istore_n 1, 1) := by decide +kernel
theorem dX3_back_7 : decode cX3_back 7 = .ok (.aload_n 0, 1) := by decide +kernel
theorem dX3_back_8 : decode cX3_back 8 = .ok (.getfield 9, 3) := by decide +kernel
theorem dX3_back_11 : decode cX3_back 11 = .ok (.iconst 3, 1) := by decide +kernel
theorem dX3_back_12 : decode cX3_back 12 = .ok (.iconst 0, 1) := by decide +kernel
theorem dX3_back_13 : decode cX3_back 13 = .ok (.iastore, 1) := by decide +kernel
theorem dX3_back_14 : decode cX3_back 14 = .ok (.iload_n 1, 1) := by decide +kernel
theorem dX3_back_15 : decode cX3_back 15 = .ok (.ireturn, 1) := by decide +kernel
set_option maxRecDepth 20000 in
theorem ggX3_kind_X3_isIn : GoodIn wsX3_kind wsX3_isIn := goodIn_r _ [4] (by decide +kernel) (by decide +kernel)
set_option maxRecDepth 20000 in
theorem gX3_kind_X3_isIn : GoodIn wsX3_kind (va_wsS RX3 99 yX3_isIn wsX3_isIn) := goodIn_app (goodIn_of _ (by decide +kernel)) ggX3_kind_X3_isIn
set_option maxRecDepth 20000 in
theorem ggX3_kind_X3_no : GoodIn wsX3_kind wsX3_no := goodIn_r _ [8, 9, 24, 25, 26, 27, 28, 29, 30, 31, 32, 33, 34, 35, 36, 37, 38, 39] (by decide +kernel) (by decide +kernel)
set_option maxRecDepth 20000 in
theorem gX3_kind_X3_no : GoodIn wsX3_kind (wsV RX3 42 RX3 yX3_no wsX3_no) := goodIn_app (goodIn_of _ (by decide +kernel)) ggX3_kind_X3_no
set_option maxRecDepth 20000 in
theorem ggX3_kind_X3_allows : GoodIn wsX3_kind wsX3_allows := goodIn_r _ [13, 14, 24, 25, 26, 27, 28, 29, 30, 31, 32, 33, 34, 35, 36, 37, 38, 39] (by decide +kernel) (by decide +kernel)
set_option maxRecDepth 20000 in
theorem gX3_kind_X3_allows : GoodIn wsX3_kind (wsV RX3 64 RX3 yX3_allows wsX3_allows) := goodIn_app (goodIn_of _ (by decide +kernel)) ggX3_kind_X3_allows
set_option maxRecDepth 20000 in
theorem ggX3_kind_X3_minutesOf : GoodIn wsX3_kind wsX3_minutesOf := goodIn_r _ [17] (by decide +kernel) (by decide +kernel)
set_option maxRecDepth 20000 in
theorem gX3_kind_X3_minutesOf : GoodIn wsX3_kind (va_wsS RX3 77 yX3_minutesOf wsX3_minutesOf) := goodIn_app (goodIn_of _ (by decide +kernel)) ggX3_kind_X3_minutesOf
set_option maxRecDepth 20000 in
theorem ggX3_kind_X3_swellsBy : GoodIn wsX3_kind wsX3_swellsBy := goodIn_r _ [20] (by decide +kernel) (by decide +kernel)
set_option maxRecDepth 20000 in
theorem gX3_kind_X3_swellsBy : GoodIn wsX3_kind (va_wsS RX3 71 yX3_swellsBy wsX3_swellsBy) := goodIn_app (goodIn_of _ (by decide +kernel)) ggX3_kind_X3_swellsBy
set_option maxRecDepth 20000 in
theorem ggX3_kind_X3_harmOf : GoodIn wsX3_kind wsX3_harmOf := goodIn_r _ [23] (by decide +kernel) (by decide +kernel)
set_option maxRecDepth 20000 in
theorem gX3_kind_X3_harmOf : GoodIn wsX3_kind (va_wsS RX3 74 yX3_harmOf wsX3_harmOf) := goodIn_app (goodIn_of _ (by decide +kernel)) ggX3_kind_X3_harmOf
theorem dX3_kind_0 : decode cX3_kind 0 = .ok (.iload_n 1, 1) := by decide +kernel
theorem dX3_kind_1 : decode cX3_kind 1 = .ok (.iconst 0, 1) := by decide +kernel
theorem dX3_kind_2 : decode cX3_kind 2 = .ok (.bipush 6, 2) := by decide +kernel
theorem dX3_kind_4 : decode cX3_kind 4 = .ok (.invokestatic 99, 3) := by decide +kernel
theorem dX3_kind_7 : decode cX3_kind 7 = .ok (.ifCond .eq 12, 3) := by decide +kernel
theorem dX3_kind_10 : decode cX3_kind 10 = .ok (.iload_n 2, 1) := by decide +kernel
theorem dX3_kind_11 : decode cX3_kind 11 = .ok (.iconst 0, 1) := by decide +kernel
theorem dX3_kind_12 : decode cX3_kind 12 = .ok (.iconst 3, 1) := by decide +kernel
theorem dX3_kind_13 : decode cX3_kind 13 = .ok (.invokestatic 99, 3) := by decide +kernel
theorem dX3_kind_16 : decode cX3_kind 16 = .ok (.ifCond .ne 10, 3) := by decide +kernel
theorem dX3_kind_19 : decode cX3_kind 19 = .ok (.aload_n 0, 1) := by decide +kernel
theorem dX3_kind_20 : decode cX3_kind 20 = .ok (.bipush (-2), 2) := by decide +kernel
theorem dX3_kind_22 : decode cX3_kind 22 = .ok (.invokevirtual 42, 3) := by decide +kernel
theorem dX3_kind_25 : decode cX3_kind 25 = .ok (.ireturn, 1) := by decide +kernel
theorem dX3_kind_26 : decode cX3_kind 26 = .ok (.iload_n 2, 1) := by decide +kernel
theorem dX3_kind_27 : decode cX3_kind 27 = .ok (.ifCond .ne 11, 3) := by decide +kernel
theorem dX3_kind_30 : decode cX3_kind 30 = .ok (.aload_n 0, 1) := by decide +kernel
theorem dX3_kind_31 : decode cX3_kind 31 = .ok (.iload_n 1, 1) := by decide +kernel
theorem dX3_kind_32 : decode cX3_kind 32 = .ok (.invokevirtual 64, 3) := by decide +kernel
theorem dX3_kind_35 : decode cX3_kind 35 = .ok (.goto 31, 3) := by decide +kernel
theorem dX3_kind_38 : decode cX3_kind 38 = .ok (.iload_n 2, 1) := by decide +kernel
theorem dX3_kind_39 : decode cX3_kind 39 = .ok (.iconst 1, 1) := by decide +kernel
theorem dX3_kind_40 : decode cX3_kind 40 = .ok (.if_icmp .ne 10, 3) := by decide +kernel
theorem dX3_kind_43 : decode cX3_kind 43 = .ok (.iload_n 1, 1) := by decide +kernel
theorem dX3_kind_44 : decode cX3_kind 44 = .ok (.invokestatic 77, 3) := by decide +kernel
theorem dX3_kind_47 : decode cX3_kind 47 = .ok (.goto 19, 3) := by decide +kernel
theorem dX3_kind_50 : decode cX3_kind 50 = .ok (.iload_n 2, 1) := by decide +kernel
theorem dX3_kind_51 : decode cX3_kind 51 = .ok (.iconst 2, 1) := by decide +kernel
theorem dX3_kind_52 : decode cX3_kind 52 = .ok (.if_icmp .ne 10, 3) := by decide +kernel
theorem dX3_kind_55 : decode cX3_kind 55 = .ok (.iload_n 1, 1) := by decide +kernel
theorem dX3_kind_56 : decode cX3_kind 56 = .ok (.invokestatic 71, 3) := by decide +kernel
theorem dX3_kind_59 : decode cX3_kind 59 = .ok (.goto 7, 3) := by decide +kernel
theorem dX3_kind_62 : decode cX3_kind 62 = .ok (.iload_n 1, 1) := by decide +kernel
theorem dX3_kind_63 : decode cX3_kind 63 = .ok (.invokestatic 74, 3) := by decide +kernel
theorem dX3_kind_66 : decode cX3_kind 66 = .ok (.ireturn, 1) := by decide +kernel
set_option maxRecDepth 20000 in
theorem ggX3_wrongTry_X3_isIn : GoodIn wsX3_wrongTry wsX3_isIn := goodIn_r _ [4] (by decide +kernel) (by decide +kernel)
set_option maxRecDepth 20000 in
theorem gX3_wrongTry_X3_isIn : GoodIn wsX3_wrongTry (va_wsS RX3 99 yX3_isIn wsX3_isIn) := goodIn_app (goodIn_of _ (by decide +kernel)) ggX3_wrongTry_X3_isIn
set_option maxRecDepth 20000 in
theorem ggX3_wrongTry_X3_isOff : GoodIn wsX3_wrongTry wsX3_isOff := goodIn_r _ [8, 9, 10, 11, 12, 13, 14, 15, 16, 17, 18, 19, 20, 21, 22, 23, 24, 25] (by decide +kernel) (by decide +kernel)
set_option maxRecDepth 20000 in
theorem gX3_wrongTry_X3_isOff : GoodIn wsX3_wrongTry (wsV RX3 110 RX3 yX3_isOff wsX3_isOff) := goodIn_app (goodIn_of _ (by decide +kernel)) ggX3_wrongTry_X3_isOff
theorem dX3_wrongTry_0 : decode cX3_wrongTry 0 = .ok (.iload_n 1, 1) := by decide +kernel
theorem dX3_wrongTry_1 : decode cX3_wrongTry 1 = .ok (.iconst 0, 1) := by decide +kernel
theorem dX3_wrongTry_2 : decode cX3_wrongTry 2 = .ok (.bipush 6, 2) := by decide +kernel
theorem dX3_wrongTry_4 : decode cX3_wrongTry 4 = .ok (.invokestatic 99, 3) := by decide +kernel
theorem dX3_wrongTry_7 : decode cX3_wrongTry 7 = .ok (.ifCond .ne 8, 3) := by decide +kernel
theorem dX3_wrongTry_10 : decode cX3_wrongTry 10 = .ok (.bipush (-2), 2) := by decide +kernel
theorem dX3_wrongTry_12 : decode cX3_wrongTry 12 = .ok (.goto 16, 3) := by decide +kernel
theorem dX3_wrongTry_15 : decode cX3_wrongTry 15 = .ok (.aload_n 0, 1) := by decide +kernel
theorem dX3_wrongTry_16 : decode cX3_wrongTry 16 = .ok (.invokevirtual 110, 3) := by decide +kernel
theorem dX3_wrongTry_19 : decode cX3_wrongTry 19 = .ok (.ifCond .eq 8, 3) := by decide +kernel
theorem dX3_wrongTry_22 : decode cX3_wrongTry 22 = .ok (.bipush (-3), 2) := by decide +kernel
theorem dX3_wrongTry_24 : decode cX3_wrongTry 24 = .ok (.goto 4, 3) := by decide +kernel
theorem dX3_wrongTry_27 : decode cX3_wrongTry 27 = .ok (.iconst 0, 1) := by decide +kernel
theorem dX3_wrongTry_28 : decode cX3_wrongTry 28 = .ok (.ireturn, 1) := by decide +kernel
set_option maxRecDepth 20000 in
theorem ggX3_tries_X3_wrongTry : GoodIn wsX3_tries wsX3_wrongTry := goodIn_r _ [6, 7, 8, 5, 9, 10, 11, 12, 13, 1, 64, 65, 66, 67, 68, 69, 70, 71, 72, 73, 74, 75, 76, 77, 78, 79] (by decide +kernel) (by decide +kernel)
set_option maxRecDepth 20000 in
theorem gX3_tries_X3_wrongTry : GoodIn wsX3_tries (wsV RX3 132 RX3 yX3_wrongTry wsX3_wrongTry) := goodIn_app (goodIn_of _ (by decide +kernel)) ggX3_tries_X3_wrongTry
set_option maxRecDepth 20000 in
theorem ggX3_tries_X3_minutesOf : GoodIn wsX3_tries wsX3_minutesOf := goodIn_r _ [16] (by decide +kernel) (by decide +kernel)
set_option maxRecDepth 20000 in
theorem gX3_tries_X3_minutesOf : GoodIn wsX3_tries (va_wsS RX3 77 yX3_minutesOf wsX3_minutesOf) := goodIn_app (goodIn_of _ (by decide +kernel)) ggX3_tries_X3_minutesOf
set_option maxRecDepth 20000 in
theorem ggX3_tries_X3_no : GoodIn wsX3_tries wsX3_no := goodIn_r _ [20, 21, 64, 65, 66, 67, 68, 69, 70, 71, 72, 73, 74, 75, 76, 77, 78, 79] (by decide +kernel) (by decide +kernel)
set_option maxRecDepth 20000 in
theorem gX3_tries_X3_no : GoodIn wsX3_tries (wsV RX3 42 RX3 yX3_no wsX3_no) := goodIn_app (goodIn_of _ (by decide +kernel)) ggX3_tries_X3_no
set_option maxRecDepth 20000 in
theorem ggX3_tries_X3_tried : GoodIn wsX3_tries wsX3_tried := goodIn_r _ [25, 1, 26, 27, 28, 5, 29, 30, 31, 32, 33, 34, 35, 36, 37, 38, 39, 40, 41, 42, 43, 44, 45, 46, 47, 48, 49, 50, 51, 52, 53, 54, 55, 56, 57, 58, 59, 60, 61, 62, 63, 14, 15, 16, 64, 65, 66, 67, 68, 69, 70, 71, 72, 73, 74, 75, 76, 77, 78, 79] (by decide +kernel) (by decide +kernel)
set_option maxRecDepth 20000 in
theorem gX3_tries_X3_tried : GoodIn wsX3_tries (wsV RX3 114 RX3 yX3_tried wsX3_tried) := goodIn_app (goodIn_of _ (by decide +kernel)) ggX3_tries_X3_tried
theorem dX3_tries_0 : decode cX3_tries 0 = .ok (.aload_n 0, 1) := by decide +kernel
theorem dX3_tries_1 : decode cX3_tries 1 = .ok (.iload_n 1, 1) := by decide +kernel
theorem dX3_tries_2 : decode cX3_tries 2 = .ok (.invokevirtual 132, 3) := by decide +kernel
theorem dX3_tries_5 : decode cX3_tries 5 = .ok (.istore_n 2, 1) := by decide +kernel
theorem dX3_tries_6 : decode cX3_tries 6 = .ok (.iload_n 2, 1) := by decide +kernel
theorem dX3_tries_7 : decode cX3_tries 7 = .ok (.ifCond .ne 24, 3) := by decide +kernel
theorem dX3_tries_10 : decode cX3_tries 10 = .ok (.aload_n 0, 1) := by decide +kernel
theorem dX3_tries_11 : decode cX3_tries 11 = .ok (.getfield 9, 3) := by decide +kernel
theorem dX3_tries_14 : decode cX3_tries 14 = .ok (.bipush 8, 2) := by decide +kernel
theorem dX3_tries_16 : decode cX3_tries 16 = .ok (.iaload, 1) := by decide +kernel
theorem dX3_tries_17 : decode cX3_tries 17 = .ok (.iload_n 1, 1) := by decide +kernel
theorem dX3_tries_18 : decode cX3_tries 18 = .ok (.invokestatic 77, 3) := by decide +kernel
theorem dX3_tries_21 : decode cX3_tries 21 = .ok (.iadd, 1) := by decide +kernel
theorem dX3_tries_22 : decode cX3_tries 22 = .ok (.sipush 999, 3) := by decide +kernel
theorem dX3_tries_25 : decode cX3_tries 25 = .ok (.if_icmp .le 6, 3) := by decide +kernel
theorem dX3_tries_28 : decode cX3_tries 28 = .ok (.bipush (-6), 2) := by decide +kernel
theorem dX3_tries_30 : decode cX3_tries 30 = .ok (.istore_n 2, 1) := by decide +kernel
theorem dX3_tries_31 : decode cX3_tries 31 = .ok (.iload_n 2, 1) := by decide +kernel
theorem dX3_tries_32 : decode cX3_tries 32 = .ok (.ifCond .eq 11, 3) := by decide +kernel
theorem dX3_tries_35 : decode cX3_tries 35 = .ok (.aload_n 0, 1) := by decide +kernel
theorem dX3_tries_36 : decode cX3_tries 36 = .ok (.iload_n 2, 1) := by decide +kernel
theorem dX3_tries_37 : decode cX3_tries 37 = .ok (.invokevirtual 42, 3) := by decide +kernel
theorem dX3_tries_40 : decode cX3_tries 40 = .ok (.goto 16, 3) := by decide +kernel
theorem dX3_tries_43 : decode cX3_tries 43 = .ok (.aload_n 0, 1) := by decide +kernel
theorem dX3_tries_44 : decode cX3_tries 44 = .ok (.iload_n 1, 1) := by decide +kernel
theorem dX3_tries_45 : decode cX3_tries 45 = .ok (.invokevirtual 114, 3) := by decide +kernel
theorem dX3_tries_48 : decode cX3_tries 48 = .ok (.ifCond .eq 7, 3) := by decide +kernel
theorem dX3_tries_51 : decode cX3_tries 51 = .ok (.iconst 1, 1) := by decide +kernel
theorem dX3_tries_52 : decode cX3_tries 52 = .ok (.goto 4, 3) := by decide +kernel
theorem dX3_tries_55 : decode cX3_tries 55 = .ok (.iconst 0, 1) := by decide +kernel
theorem dX3_tries_56 : decode cX3_tries 56 = .ok (.ireturn, 1) := by decide +kernel
set_option maxRecDepth 20000 in
theorem ggX3_pause_X3_no : GoodIn wsX3_pause wsX3_no := goodIn_r _ [6, 7, 15, 16, 17, 18, 19, 20, 21, 22, 23, 24, 25, 26, 27, 28, 29, 30] (by decide +kernel) (by decide +kernel)
set_option maxRecDepth 20000 in
theorem gX3_pause_X3_no : GoodIn wsX3_pause (wsV RX3 42 RX3 yX3_no wsX3_no) := goodIn_app (goodIn_of _ (by decide +kernel)) ggX3_pause_X3_no
set_option maxRecDepth 20000 in
theorem ggX3_pause_X3_waits : GoodIn wsX3_pause wsX3_waits := goodIn_r _ [11, 1, 12, 13, 5, 14, 15, 16, 17, 18, 19, 20, 21, 22, 23, 24, 25, 26, 27, 28, 29, 30] (by decide +kernel) (by decide +kernel)
set_option maxRecDepth 20000 in
theorem gX3_pause_X3_waits : GoodIn wsX3_pause (wsV RX3 117 RX3 yX3_waits wsX3_waits) := goodIn_app (goodIn_of _ (by decide +kernel)) ggX3_pause_X3_waits
theorem dX3_pause_0 : decode cX3_pause 0 = .ok (.iload_n 1, 1) := by decide +kernel
theorem dX3_pause_1 : decode cX3_pause 1 = .ok (.iconst 1, 1) := by decide +kernel
theorem dX3_pause_2 : decode cX3_pause 2 = .ok (.if_icmp .ge 10, 3) := by decide +kernel
theorem dX3_pause_5 : decode cX3_pause 5 = .ok (.aload_n 0, 1) := by decide +kernel
theorem dX3_pause_6 : decode cX3_pause 6 = .ok (.bipush (-4), 2) := by decide +kernel
theorem dX3_pause_8 : decode cX3_pause 8 = .ok (.invokevirtual 42, 3) := by decide +kernel
theorem dX3_pause_11 : decode cX3_pause 11 = .ok (.ireturn, 1) := by decide +kernel
theorem dX3_pause_12 : decode cX3_pause 12 = .ok (.iload_n 1, 1) := by decide +kernel
theorem dX3_pause_13 : decode cX3_pause 13 = .ok (.bipush 60, 2) := by decide +kernel
theorem dX3_pause_15 : decode cX3_pause 15 = .ok (.if_icmp .gt 18, 3) := by decide +kernel
theorem dX3_pause_18 : decode cX3_pause 18 = .ok (.aload_n 0, 1) := by decide +kernel
theorem dX3_pause_19 : decode cX3_pause 19 = .ok (.getfield 9, 3) := by decide +kernel
theorem dX3_pause_22 : decode cX3_pause 22 = .ok (.bipush 8, 2) := by decide +kernel
theorem dX3_pause_24 : decode cX3_pause 24 = .ok (.iaload, 1) := by decide +kernel
theorem dX3_pause_25 : decode cX3_pause 25 = .ok (.iload_n 1, 1) := by decide +kernel
theorem dX3_pause_26 : decode cX3_pause 26 = .ok (.iadd, 1) := by decide +kernel
theorem dX3_pause_27 : decode cX3_pause 27 = .ok (.sipush 999, 3) := by decide +kernel
theorem dX3_pause_30 : decode cX3_pause 30 = .ok (.if_icmp .le 10, 3) := by decide +kernel
theorem dX3_pause_33 : decode cX3_pause 33 = .ok (.aload_n 0, 1) := by decide +kernel
theorem dX3_pause_34 : decode cX3_pause 34 = .ok (.bipush (-6), 2) := by decide +kernel
theorem dX3_pause_36 : decode cX3_pause 36 = .ok (.invokevirtual 42, 3) := by decide +kernel
theorem dX3_pause_39 : decode cX3_pause 39 = .ok (.ireturn, 1) := by decide +kernel
theorem dX3_pause_40 : decode cX3_pause 40 = .ok (.aload_n 0, 1) := by decide +kernel
theorem dX3_pause_41 : decode cX3_pause 41 = .ok (.iload_n 1, 1) := by decide +kernel
theorem dX3_pause_42 : decode cX3_pause 42 = .ok (.invokevirtual 117, 3) := by decide +kernel
theorem dX3_pause_45 : decode cX3_pause 45 = .ok (.aload_n 0, 1) := by decide +kernel
theorem dX3_pause_46 : decode cX3_pause 46 = .ok (.getfield 9, 3) := by decide +kernel
theorem dX3_pause_49 : decode cX3_pause 49 = .ok (.bipush 8, 2) := by decide +kernel
theorem dX3_pause_51 : decode cX3_pause 51 = .ok (.iaload, 1) := by decide +kernel
theorem dX3_pause_52 : decode cX3_pause 52 = .ok (.ireturn, 1) := by decide +kernel
set_option maxRecDepth 20000 in
theorem ggX3_would_X3_wrongTry : GoodIn wsX3_would wsX3_wrongTry := goodIn_r _ [5, 6, 7, 4, 8, 9, 10, 11, 12, 13, 47, 48, 49, 50, 51, 52, 53, 54, 55, 56, 57, 58, 59, 60, 61, 62] (by decide +kernel) (by decide +kernel)
set_option maxRecDepth 20000 in
theorem gX3_would_X3_wrongTry : GoodIn wsX3_would (wsV RX3 132 RX3 yX3_wrongTry wsX3_wrongTry) := goodIn_app (goodIn_of _ (by decide +kernel)) ggX3_would_X3_wrongTry
set_option maxRecDepth 20000 in
theorem ggX3_would_X3_no : GoodIn wsX3_would wsX3_no := goodIn_r _ [17, 18, 47, 48, 49, 50, 51, 52, 53, 54, 55, 56, 57, 58, 59, 60, 61, 62] (by decide +kernel) (by decide +kernel)
set_option maxRecDepth 20000 in
theorem gX3_would_X3_no : GoodIn wsX3_would (wsV RX3 42 RX3 yX3_no wsX3_no) := goodIn_app (goodIn_of _ (by decide +kernel)) ggX3_would_X3_no
set_option maxRecDepth 20000 in
theorem ggX3_would_X3_wouldGo : GoodIn wsX3_would wsX3_wouldGo := goodIn_r _ [22, 13, 23, 24, 25, 4, 26, 27, 28, 29, 30, 31, 32, 33, 34, 35, 36, 37, 38, 39, 40, 41, 42, 43, 44, 45, 46, 47, 48, 49, 50, 51, 52, 53, 54, 55, 56, 57, 58, 59, 60, 61, 62] (by decide +kernel) (by decide +kernel)
set_option maxRecDepth 20000 in
theorem gX3_would_X3_wouldGo : GoodIn wsX3_would (wsV RX3 80 RX3 yX3_wouldGo wsX3_wouldGo) := goodIn_app (goodIn_of _ (by decide +kernel)) ggX3_would_X3_wouldGo
theorem dX3_would_0 : decode cX3_would 0 = .ok (.aload_n 0, 1) := by decide +kernel
theorem dX3_would_1 : decode cX3_would 1 = .ok (.iload_n 1, 1) := by decide +kernel
theorem dX3_would_2 : decode cX3_would 2 = .ok (.invokevirtual 132, 3) := by decide +kernel
theorem dX3_would_5 : decode cX3_would 5 = .ok (.istore_n 2, 1) := by decide +kernel
theorem dX3_would_6 : decode cX3_would 6 = .ok (.iload_n 2, 1) := by decide +kernel
theorem dX3_would_7 : decode cX3_would 7 = .ok (.ifCond .eq 11, 3) := by decide +kernel
theorem dX3_would_10 : decode cX3_would 10 = .ok (.aload_n 0, 1) := by decide +kernel
theorem dX3_would_11 : decode cX3_would 11 = .ok (.iload_n 2, 1) := by decide +kernel
theorem dX3_would_12 : decode cX3_would 12 = .ok (.invokevirtual 42, 3) := by decide +kernel
theorem dX3_would_15 : decode cX3_would 15 = .ok (.goto 16, 3) := by decide +kernel
theorem dX3_would_18 : decode cX3_would 18 = .ok (.aload_n 0, 1) := by decide +kernel
theorem dX3_would_19 : decode cX3_would 19 = .ok (.iload_n 1, 1) := by decide +kernel
theorem dX3_would_20 : decode cX3_would 20 = .ok (.invokevirtual 80, 3) := by decide +kernel
theorem dX3_would_23 : decode cX3_would 23 = .ok (.ifCond .eq 7, 3) := by decide +kernel
theorem dX3_would_26 : decode cX3_would 26 = .ok (.iconst 1, 1) := by decide +kernel
theorem dX3_would_27 : decode cX3_would 27 = .ok (.goto 4, 3) := by decide +kernel
theorem dX3_would_30 : decode cX3_would 30 = .ok (.iconst 0, 1) := by decide +kernel
theorem dX3_would_31 : decode cX3_would 31 = .ok (.ireturn, 1) := by decide +kernel
set_option maxRecDepth 20000 in
theorem ggX3_holds_X3_isOff : GoodIn wsX3_holds wsX3_isOff := goodIn_r _ [6, 1, 21, 22, 23, 24, 25, 26, 27, 28, 29, 30, 31, 32, 33, 34, 35, 36] (by decide +kernel) (by decide +kernel)
set_option maxRecDepth 20000 in
theorem gX3_holds_X3_isOff : GoodIn wsX3_holds (wsV RX3 110 RX3 yX3_isOff wsX3_isOff) := goodIn_app (goodIn_of _ (by decide +kernel)) ggX3_holds_X3_isOff
set_option maxRecDepth 20000 in
theorem ggX3_holds_X3_nowOf : GoodIn wsX3_holds wsX3_nowOf := goodIn_r _ [10, 1, 11, 12, 13, 5, 14, 15, 16, 17, 18, 19, 20, 21, 22, 23, 24, 25, 26, 27, 28, 29, 30, 31, 32, 33, 34, 35, 36] (by decide +kernel) (by decide +kernel)
set_option maxRecDepth 20000 in
theorem gX3_holds_X3_nowOf : GoodIn wsX3_holds (wsV RX3 126 RX3 yX3_nowOf wsX3_nowOf) := goodIn_app (goodIn_of _ (by decide +kernel)) ggX3_holds_X3_nowOf
theorem dX3_holds_0 : decode cX3_holds 0 = .ok (.aload_n 0, 1) := by decide +kernel
theorem dX3_holds_1 : decode cX3_holds 1 = .ok (.invokevirtual 110, 3) := by decide +kernel
theorem dX3_holds_4 : decode cX3_holds 4 = .ok (.ifCond .eq 9, 3) := by decide +kernel
theorem dX3_holds_7 : decode cX3_holds 7 = .ok (.sipush (-9999), 3) := by decide +kernel
theorem dX3_holds_10 : decode cX3_holds 10 = .ok (.goto 20, 3) := by decide +kernel
theorem dX3_holds_13 : decode cX3_holds 13 = .ok (.aload_n 0, 1) := by decide +kernel
theorem dX3_holds_14 : decode cX3_holds 14 = .ok (.aload_n 0, 1) := by decide +kernel
theorem dX3_holds_15 : decode cX3_holds 15 = .ok (.getfield 9, 3) := by decide +kernel
theorem dX3_holds_18 : decode cX3_holds 18 = .ok (.iconst 3, 1) := by decide +kernel
theorem dX3_holds_19 : decode cX3_holds 19 = .ok (.iaload, 1) := by decide +kernel
theorem dX3_holds_20 : decode cX3_holds 20 = .ok (.invokevirtual 126, 3) := by decide +kernel
theorem dX3_holds_23 : decode cX3_holds 23 = .ok (.aload_n 0, 1) := by decide +kernel
theorem dX3_holds_24 : decode cX3_holds 24 = .ok (.getfield 9, 3) := by decide +kernel
theorem dX3_holds_27 : decode cX3_holds 27 = .ok (.iconst 1, 1) := by decide +kernel
theorem dX3_holds_28 : decode cX3_holds 28 = .ok (.iaload, 1) := by decide +kernel
theorem dX3_holds_29 : decode cX3_holds 29 = .ok (.isub, 1) := by decide +kernel
theorem dX3_holds_30 : decode cX3_holds 30 = .ok (.ireturn, 1) := by decide +kernel
set_option maxRecDepth 20000 in
theorem ggX3_goesBy_X3_begins : GoodIn wsX3_goesBy wsX3_begins := goodIn_r _ [5, 6, 7, 8, 9, 4, 10, 56, 57, 58, 59, 60, 61, 62, 63, 64, 65, 66, 67, 68, 69, 70, 71] (by decide +kernel) (by decide +kernel)
set_option maxRecDepth 20000 in
theorem gX3_goesBy_X3_begins : GoodIn wsX3_goesBy (wsV RX3 135 RX3 yX3_begins wsX3_begins) := goodIn_app (goodIn_of _ (by decide +kernel)) ggX3_goesBy_X3_begins
set_option maxRecDepth 20000 in
theorem ggX3_goesBy_X3_wouldGo : GoodIn wsX3_goesBy wsX3_wouldGo := goodIn_r _ [14, 6, 15, 16, 17, 4, 18, 19, 20, 21, 22, 23, 24, 25, 26, 27, 28, 29, 30, 31, 32, 33, 34, 35, 36, 37, 38, 56, 57, 58, 59, 60, 61, 62, 63, 64, 65, 66, 67, 68, 69, 70, 71] (by decide +kernel) (by decide +kernel)
set_option maxRecDepth 20000 in
theorem gX3_goesBy_X3_wouldGo : GoodIn wsX3_goesBy (wsV RX3 80 RX3 yX3_wouldGo wsX3_wouldGo) := goodIn_app (goodIn_of _ (by decide +kernel)) ggX3_goesBy_X3_wouldGo
set_option maxRecDepth 20000 in
theorem ggX3_goesBy_X3_wears : GoodIn wsX3_goesBy wsX3_wears := goodIn_r _ [42, 6, 19, 20, 4, 21, 22, 23, 24, 43, 44, 45, 46, 47, 48, 49, 50, 51, 56, 57, 58, 59, 60, 61, 62, 63, 64, 65, 66, 67, 68, 69, 70, 71] (by decide +kernel) (by decide +kernel)
set_option maxRecDepth 20000 in
theorem gX3_goesBy_X3_wears : GoodIn wsX3_goesBy (wsV RX3 84 RX3 yX3_wears wsX3_wears) := goodIn_app (goodIn_of _ (by decide +kernel)) ggX3_goesBy_X3_wears
set_option maxRecDepth 20000 in
theorem ggX3_goesBy_X3_ends : GoodIn wsX3_goesBy wsX3_ends := goodIn_r _ [55, 7, 6, 8, 9, 4, 10, 56, 57, 58, 59, 60, 61, 62, 63, 64, 65, 66, 67, 68, 69, 70, 71] (by decide +kernel) (by decide +kernel)
set_option maxRecDepth 20000 in
theorem gX3_goesBy_X3_ends : GoodIn wsX3_goesBy (wsV RX3 138 RX3 yX3_ends wsX3_ends) := goodIn_app (goodIn_of _ (by decide +kernel)) ggX3_goesBy_X3_ends
theorem dX3_goesBy_0 : decode cX3_goesBy 0 = .ok (.aload_n 0, 1) := by decide +kernel
theorem dX3_goesBy_1 : decode cX3_goesBy 1 = .ok (.invokevirtual 135, 3) := by decide +kernel
theorem dX3_goesBy_4 : decode cX3_goesBy 4 = .ok (.bipush (-9), 2) := by decide +kernel
theorem dX3_goesBy_6 : decode cX3_goesBy 6 = .ok (.istore_n 2, 1) := by decide +kernel
theorem dX3_goesBy_7 : decode cX3_goesBy 7 = .ok (.iconst 0, 1) := by decide +kernel
theorem dX3_goesBy_8 : decode cX3_goesBy 8 = .ok (.istore_n 3, 1) := by decide +kernel
theorem dX3_goesBy_9 : decode cX3_goesBy 9 = .ok (.iload_n 3, 1) := by decide +kernel
theorem dX3_goesBy_10 : decode cX3_goesBy 10 = .ok (.bipush 12, 2) := by decide +kernel
theorem dX3_goesBy_12 : decode cX3_goesBy 12 = .ok (.if_icmp .gt 28, 3) := by decide +kernel
theorem dX3_goesBy_15 : decode cX3_goesBy 15 = .ok (.iload_n 2, 1) := by decide +kernel
theorem dX3_goesBy_16 : decode cX3_goesBy 16 = .ok (.ifCond .ge 24, 3) := by decide +kernel
theorem dX3_goesBy_19 : decode cX3_goesBy 19 = .ok (.aload_n 0, 1) := by decide +kernel
theorem dX3_goesBy_20 : decode cX3_goesBy 20 = .ok (.iload_n 1, 1) := by decide +kernel
theorem dX3_goesBy_21 : decode cX3_goesBy 21 = .ok (.invokevirtual 80, 3) := by decide +kernel
theorem dX3_goesBy_24 : decode cX3_goesBy 24 = .ok (.ifCond .eq 5, 3) := by decide +kernel
theorem dX3_goesBy_27 : decode cX3_goesBy 27 = .ok (.iload_n 3, 1) := by decide +kernel
theorem dX3_goesBy_28 : decode cX3_goesBy 28 = .ok (.istore_n 2, 1) := by decide +kernel
theorem dX3_goesBy_29 : decode cX3_goesBy 29 = .ok (.aload_n 0, 1) := by decide +kernel
theorem dX3_goesBy_30 : decode cX3_goesBy 30 = .ok (.iload_n 1, 1) := by decide +kernel
theorem dX3_goesBy_31 : decode cX3_goesBy 31 = .ok (.invokevirtual 84, 3) := by decide +kernel
theorem dX3_goesBy_34 : decode cX3_goesBy 34 = .ok (.iinc 3 1, 3) := by decide +kernel
theorem dX3_goesBy_37 : decode cX3_goesBy 37 = .ok (.goto (-28), 3) := by decide +kernel
theorem dX3_goesBy_40 : decode cX3_goesBy 40 = .ok (.aload_n 0, 1) := by decide +kernel
theorem dX3_goesBy_41 : decode cX3_goesBy 41 = .ok (.invokevirtual 138, 3) := by decide +kernel
theorem dX3_goesBy_44 : decode cX3_goesBy 44 = .ok (.iload_n 2, 1) := by decide +kernel
theorem dX3_goesBy_45 : decode cX3_goesBy 45 = .ok (.ireturn, 1) := by decide +kernel
set_option maxRecDepth 20000 in
theorem ggX3_goes_X3_wrongTry : GoodIn wsX3_goes wsX3_wrongTry := goodIn_r _ [5, 6, 7, 4, 8, 9, 10, 11, 12, 13, 76, 77, 78, 79, 80, 81, 82, 83, 84, 85, 86, 87, 88, 89, 90, 91] (by decide +kernel) (by decide +kernel)
set_option maxRecDepth 20000 in
theorem gX3_goes_X3_wrongTry : GoodIn wsX3_goes (wsV RX3 132 RX3 yX3_wrongTry wsX3_wrongTry) := goodIn_app (goodIn_of _ (by decide +kernel)) ggX3_goes_X3_wrongTry
set_option maxRecDepth 20000 in
theorem ggX3_goes_X3_no : GoodIn wsX3_goes wsX3_no := goodIn_r _ [17, 18, 76, 77, 78, 79, 80, 81, 82, 83, 84, 85, 86, 87, 88, 89, 90, 91] (by decide +kernel) (by decide +kernel)
set_option maxRecDepth 20000 in
theorem gX3_goes_X3_no : GoodIn wsX3_goes (wsV RX3 42 RX3 yX3_no wsX3_no) := goodIn_app (goodIn_of _ (by decide +kernel)) ggX3_goes_X3_no
set_option maxRecDepth 20000 in
theorem ggX3_goes_X3_goesBy : GoodIn wsX3_goes wsX3_goesBy := goodIn_r _ [22, 23, 24, 25, 4, 26, 13, 27, 28, 29, 30, 31, 32, 33, 34, 35, 36, 37, 38, 39, 40, 41, 42, 43, 44, 45, 46, 47, 48, 49, 50, 51, 52, 53, 54, 55, 56, 57, 58, 59, 60, 61, 62, 63, 64, 65, 66, 67, 68, 69, 70, 71, 72, 73, 74, 75, 76, 77, 78, 79, 80, 81, 82, 83, 84, 85, 86, 87, 88, 89, 90, 91] (by decide +kernel) (by decide +kernel)
set_option maxRecDepth 20000 in
theorem gX3_goes_X3_goesBy : GoodIn wsX3_goes (wsV RX3 141 RX3 yX3_goesBy wsX3_goesBy) := goodIn_app (goodIn_of _ (by decide +kernel)) ggX3_goes_X3_goesBy
theorem dX3_goes_0 : decode cX3_goes 0 = .ok (.aload_n 0, 1) := by decide +kernel
theorem dX3_goes_1 : decode cX3_goes 1 = .ok (.iload_n 1, 1) := by decide +kernel
theorem dX3_goes_2 : decode cX3_goes 2 = .ok (.invokevirtual 132, 3) := by decide +kernel
theorem dX3_goes_5 : decode cX3_goes 5 = .ok (.istore_n 2, 1) := by decide +kernel
theorem dX3_goes_6 : decode cX3_goes 6 = .ok (.iload_n 2, 1) := by decide +kernel
theorem dX3_goes_7 : decode cX3_goes 7 = .ok (.ifCond .eq 11, 3) := by decide +kernel
theorem dX3_goes_10 : decode cX3_goes 10 = .ok (.aload_n 0, 1) := by decide +kernel
theorem dX3_goes_11 : decode cX3_goes 11 = .ok (.iload_n 2, 1) := by decide +kernel
theorem dX3_goes_12 : decode cX3_goes 12 = .ok (.invokevirtual 42, 3) := by decide +kernel
theorem dX3_goes_15 : decode cX3_goes 15 = .ok (.goto 8, 3) := by decide +kernel
theorem dX3_goes_18 : decode cX3_goes 18 = .ok (.aload_n 0, 1) := by decide +kernel
theorem dX3_goes_19 : decode cX3_goes 19 = .ok (.iload_n 1, 1) := by decide +kernel
theorem dX3_goes_20 : decode cX3_goes 20 = .ok (.invokevirtual 141, 3) := by decide +kernel
theorem dX3_goes_23 : decode cX3_goes 23 = .ok (.ireturn, 1) := by decide +kernel
set_option maxRecDepth 20000 in
theorem ggX3_stop_X3_isOff : GoodIn wsX3_stop wsX3_isOff := goodIn_r _ [6, 7, 70, 71, 72, 73, 74, 75, 76, 77, 78, 79, 80, 81, 82, 83, 84, 85] (by decide +kernel) (by decide +kernel)
set_option maxRecDepth 20000 in
theorem gX3_stop_X3_isOff : GoodIn wsX3_stop (wsV RX3 110 RX3 yX3_isOff wsX3_isOff) := goodIn_app (goodIn_of _ (by decide +kernel)) ggX3_stop_X3_isOff
set_option maxRecDepth 20000 in
theorem ggX3_stop_X3_no : GoodIn wsX3_stop wsX3_no := goodIn_r _ [11, 12, 70, 71, 72, 73, 74, 75, 76, 77, 78, 79, 80, 81, 82, 83, 84, 85] (by decide +kernel) (by decide +kernel)
set_option maxRecDepth 20000 in
theorem gX3_stop_X3_no : GoodIn wsX3_stop (wsV RX3 42 RX3 yX3_no wsX3_no) := goodIn_app (goodIn_of _ (by decide +kernel)) ggX3_stop_X3_no
set_option maxRecDepth 20000 in
theorem ggX3_stop_X3_goesBy : GoodIn wsX3_stop wsX3_goesBy := goodIn_r _ [16, 17, 18, 19, 5, 20, 7, 21, 22, 23, 24, 25, 26, 27, 28, 29, 30, 31, 32, 33, 34, 35, 36, 37, 38, 39, 40, 41, 42, 43, 44, 45, 46, 47, 48, 49, 50, 51, 52, 53, 54, 55, 56, 57, 58, 59, 60, 61, 62, 63, 64, 65, 66, 67, 68, 69, 70, 71, 72, 73, 74, 75, 76, 77, 78, 79, 80, 81, 82, 83, 84, 85] (by decide +kernel) (by decide +kernel)
set_option maxRecDepth 20000 in
theorem gX3_stop_X3_goesBy : GoodIn wsX3_stop (wsV RX3 141 RX3 yX3_goesBy wsX3_goesBy) := goodIn_app (goodIn_of _ (by decide +kernel)) ggX3_stop_X3_goesBy
theorem dX3_stop_0 : decode cX3_stop 0 = .ok (.aload_n 0, 1) := by decide +kernel
theorem dX3_stop_1 : decode cX3_stop 1 = .ok (.invokevirtual 110, 3) := by decide +kernel
theorem dX3_stop_4 : decode cX3_stop 4 = .ok (.ifCond .eq 10, 3) := by decide +kernel
theorem dX3_stop_7 : decode cX3_stop 7 = .ok (.aload_n 0, 1) := by decide +kernel
theorem dX3_stop_8 : decode cX3_stop 8 = .ok (.bipush (-3), 2) := by decide +kernel
theorem dX3_stop_10 : decode cX3_stop 10 = .ok (.invokevirtual 42, 3) := by decide +kernel
theorem dX3_stop_13 : decode cX3_stop 13 = .ok (.ireturn, 1) := by decide +kernel
theorem dX3_stop_14 : decode cX3_stop 14 = .ok (.bipush (-9), 2) := by decide +kernel
theorem dX3_stop_16 : decode cX3_stop 16 = .ok (.istore_n 1, 1) := by decide +kernel
theorem dX3_stop_17 : decode cX3_stop 17 = .ok (.ldc 41, 2) := by decide +kernel
theorem dX3_stop_19 : decode cX3_stop 19 = .ok (.istore_n 2, 1) := by decide +kernel
theorem dX3_stop_20 : decode cX3_stop 20 = .ok (.iconst 0, 1) := by decide +kernel
theorem dX3_stop_21 : decode cX3_stop 21 = .ok (.istore_n 3, 1) := by decide +kernel
theorem dX3_stop_22 : decode cX3_stop 22 = .ok (.iload_n 3, 1) := by decide +kernel
theorem dX3_stop_23 : decode cX3_stop 23 = .ok (.bipush 7, 2) := by decide +kernel
theorem dX3_stop_25 : decode cX3_stop 25 = .ok (.if_icmp .ge 35, 3) := by decide +kernel
theorem dX3_stop_28 : decode cX3_stop 28 = .ok (.aload_n 0, 1) := by decide +kernel
theorem dX3_stop_29 : decode cX3_stop 29 = .ok (.iload_n 3, 1) := by decide +kernel
theorem dX3_stop_30 : decode cX3_stop 30 = .ok (.invokevirtual 141, 3) := by decide +kernel
theorem dX3_stop_33 : decode cX3_stop 33 = .ok (.istore 4, 2) := by decide +kernel
theorem dX3_stop_35 : decode cX3_stop 35 = .ok (.iload 4, 2) := by decide +kernel
theorem dX3_stop_37 : decode cX3_stop 37 = .ok (.ifCond .lt 17, 3) := by decide +kernel
theorem dX3_stop_40 : decode cX3_stop 40 = .ok (.iload 4, 2) := by decide +kernel
theorem dX3_stop_42 : decode cX3_stop 42 = .ok (.iload_n 2, 1) := by decide +kernel
theorem dX3_stop_43 : decode cX3_stop 43 = .ok (.if_icmp .lt 6, 3) := by decide +kernel
theorem dX3_stop_46 : decode cX3_stop 46 = .ok (.goto 8, 3) := by decide +kernel
theorem dX3_stop_49 : decode cX3_stop 49 = .ok (.iload_n 3, 1) := by decide +kernel
theorem dX3_stop_50 : decode cX3_stop 50 = .ok (.istore_n 1, 1) := by decide +kernel
theorem dX3_stop_51 : decode cX3_stop 51 = .ok (.iload 4, 2) := by decide +kernel
theorem dX3_stop_53 : decode cX3_stop 53 = .ok (.istore_n 2, 1) := by decide +kernel
theorem dX3_stop_54 : decode cX3_stop 54 = .ok (.iinc 3 1, 3) := by decide +kernel
theorem dX3_stop_57 : decode cX3_stop 57 = .ok (.goto (-35), 3) := by decide +kernel
theorem dX3_stop_60 : decode cX3_stop 60 = .ok (.iload_n 1, 1) := by decide +kernel
theorem dX3_stop_61 : decode cX3_stop 61 = .ok (.ireturn, 1) := by decide +kernel
set_option maxRecDepth 20000 in
theorem ggX3_waited_X3_wrongTry : GoodIn wsX3_waited wsX3_wrongTry := goodIn_r _ [6, 7, 8, 5, 9, 10, 11, 12, 13, 1, 43, 44, 45, 46, 47, 48, 49, 50, 51, 52, 53, 54, 55, 56, 57, 58] (by decide +kernel) (by decide +kernel)
set_option maxRecDepth 20000 in
theorem gX3_waited_X3_wrongTry : GoodIn wsX3_waited (wsV RX3 132 RX3 yX3_wrongTry wsX3_wrongTry) := goodIn_app (goodIn_of _ (by decide +kernel)) ggX3_waited_X3_wrongTry
set_option maxRecDepth 20000 in
theorem ggX3_waited_X3_no : GoodIn wsX3_waited wsX3_no := goodIn_r _ [17, 18, 43, 44, 45, 46, 47, 48, 49, 50, 51, 52, 53, 54, 55, 56, 57, 58] (by decide +kernel) (by decide +kernel)
set_option maxRecDepth 20000 in
theorem gX3_waited_X3_no : GoodIn wsX3_waited (wsV RX3 42 RX3 yX3_no wsX3_no) := goodIn_app (goodIn_of _ (by decide +kernel)) ggX3_waited_X3_no
set_option maxRecDepth 20000 in
theorem ggX3_waited_X3_most : GoodIn wsX3_waited wsX3_most := goodIn_r _ [21] (by decide +kernel) (by decide +kernel)
set_option maxRecDepth 20000 in
theorem gX3_waited_X3_most : GoodIn wsX3_waited (va_wsS RX3 46 yX3_most wsX3_most) := goodIn_app (goodIn_of _ (by decide +kernel)) ggX3_waited_X3_most
set_option maxRecDepth 20000 in
theorem ggX3_waited_X3_goesOver : GoodIn wsX3_waited wsX3_goesOver := goodIn_r _ [25, 1, 26, 27, 5, 28, 29, 30, 31, 32, 33, 34, 35, 36, 37, 38, 19, 20, 21, 39, 40, 41, 42, 43, 44, 45, 46, 47, 48, 49, 50, 51, 52, 53, 54, 55, 56, 57, 58] (by decide +kernel) (by decide +kernel)
set_option maxRecDepth 20000 in
theorem gX3_waited_X3_goesOver : GoodIn wsX3_waited (wsV RX3 67 RX3 yX3_goesOver wsX3_goesOver) := goodIn_app (goodIn_of _ (by decide +kernel)) ggX3_waited_X3_goesOver
theorem dX3_waited_0 : decode cX3_waited 0 = .ok (.aload_n 0, 1) := by decide +kernel
theorem dX3_waited_1 : decode cX3_waited 1 = .ok (.iload_n 1, 1) := by decide +kernel
theorem dX3_waited_2 : decode cX3_waited 2 = .ok (.invokevirtual 132, 3) := by decide +kernel
theorem dX3_waited_5 : decode cX3_waited 5 = .ok (.istore_n 2, 1) := by decide +kernel
theorem dX3_waited_6 : decode cX3_waited 6 = .ok (.iload_n 2, 1) := by decide +kernel
theorem dX3_waited_7 : decode cX3_waited 7 = .ok (.ifCond .eq 9, 3) := by decide +kernel
theorem dX3_waited_10 : decode cX3_waited 10 = .ok (.aload_n 0, 1) := by decide +kernel
theorem dX3_waited_11 : decode cX3_waited 11 = .ok (.iload_n 2, 1) := by decide +kernel
theorem dX3_waited_12 : decode cX3_waited 12 = .ok (.invokevirtual 42, 3) := by decide +kernel
theorem dX3_waited_15 : decode cX3_waited 15 = .ok (.ireturn, 1) := by decide +kernel
theorem dX3_waited_16 : decode cX3_waited 16 = .ok (.iconst 0, 1) := by decide +kernel
theorem dX3_waited_17 : decode cX3_waited 17 = .ok (.istore_n 3, 1) := by decide +kernel
theorem dX3_waited_18 : decode cX3_waited 18 = .ok (.iload_n 3, 1) := by decide +kernel
theorem dX3_waited_19 : decode cX3_waited 19 = .ok (.bipush 60, 2) := by decide +kernel
theorem dX3_waited_21 : decode cX3_waited 21 = .ok (.if_icmp .gt 53, 3) := by decide +kernel
theorem dX3_waited_24 : decode cX3_waited 24 = .ok (.aload_n 0, 1) := by decide +kernel
theorem dX3_waited_25 : decode cX3_waited 25 = .ok (.aload_n 0, 1) := by decide +kernel
theorem dX3_waited_26 : decode cX3_waited 26 = .ok (.getfield 9, 3) := by decide +kernel
theorem dX3_waited_29 : decode cX3_waited 29 = .ok (.iconst 3, 1) := by decide +kernel
theorem dX3_waited_30 : decode cX3_waited 30 = .ok (.iaload, 1) := by decide +kernel
theorem dX3_waited_31 : decode cX3_waited 31 = .ok (.iload_n 1, 1) := by decide +kernel
theorem dX3_waited_32 : decode cX3_waited 32 = .ok (.iconst 0, 1) := by decide +kernel
theorem dX3_waited_33 : decode cX3_waited 33 = .ok (.aload_n 0, 1) := by decide +kernel
theorem dX3_waited_34 : decode cX3_waited 34 = .ok (.getfield 9, 3) := by decide +kernel
theorem dX3_waited_37 : decode cX3_waited 37 = .ok (.iconst 4, 1) := by decide +kernel
theorem dX3_waited_38 : decode cX3_waited 38 = .ok (.iaload, 1) := by decide +kernel
theorem dX3_waited_39 : decode cX3_waited 39 = .ok (.iload_n 3, 1) := by decide +kernel
theorem dX3_waited_40 : decode cX3_waited 40 = .ok (.iconst 2, 1) := by decide +kernel
theorem dX3_waited_41 : decode cX3_waited 41 = .ok (.idiv, 1) := by decide +kernel
theorem dX3_waited_42 : decode cX3_waited 42 = .ok (.isub, 1) := by decide +kernel
theorem dX3_waited_43 : decode cX3_waited 43 = .ok (.invokestatic 46, 3) := by decide +kernel
theorem dX3_waited_46 : decode cX3_waited 46 = .ok (.iconst 0, 1) := by decide +kernel
theorem dX3_waited_47 : decode cX3_waited 47 = .ok (.aload_n 0, 1) := by decide +kernel
theorem dX3_waited_48 : decode cX3_waited 48 = .ok (.getfield 9, 3) := by decide +kernel
theorem dX3_waited_51 : decode cX3_waited 51 = .ok (.iconst 5, 1) := by decide +kernel
theorem dX3_waited_52 : decode cX3_waited 52 = .ok (.iaload, 1) := by decide +kernel
theorem dX3_waited_53 : decode cX3_waited 53 = .ok (.iload_n 3, 1) := by decide +kernel
theorem dX3_waited_54 : decode cX3_waited 54 = .ok (.iconst 3, 1) := by decide +kernel
theorem dX3_waited_55 : decode cX3_waited 55 = .ok (.idiv, 1) := by decide +kernel
theorem dX3_waited_56 : decode cX3_waited 56 = .ok (.isub, 1) := by decide +kernel
theorem dX3_waited_57 : decode cX3_waited 57 = .ok (.invokestatic 46, 3) := by decide +kernel
theorem dX3_waited_60 : decode cX3_waited 60 = .ok (.invokevirtual 67, 3) := by decide +kernel
theorem dX3_waited_63 : decode cX3_waited 63 = .ok (.ifCond .eq 5, 3) := by decide +kernel
theorem dX3_waited_66 : decode cX3_waited 66 = .ok (.iload_n 3, 1) := by decide +kernel
theorem dX3_waited_67 : decode cX3_waited 67 = .ok (.ireturn, 1) := by decide +kernel
theorem dX3_waited_68 : decode cX3_waited 68 = .ok (.iinc 3 1, 3) := by decide +kernel
theorem dX3_waited_71 : decode cX3_waited 71 = .ok (.goto (-53), 3) := by decide +kernel
theorem dX3_waited_74 : decode cX3_waited 74 = .ok (.bipush (-9), 2) := by decide +kernel
theorem dX3_waited_76 : decode cX3_waited 76 = .ok (.ireturn, 1) := by decide +kernel
theorem dX3_roomOf_0 : decode cX3_roomOf 0 = .ok (.iload_n 0, 1) := by decide +kernel
theorem dX3_roomOf_1 : decode cX3_roomOf 1 = .ok (.bipush 21, 2) := by decide +kernel
theorem dX3_roomOf_3 : decode cX3_roomOf 3 = .ok (.imul, 1) := by decide +kernel
theorem dX3_roomOf_4 : decode cX3_roomOf 4 = .ok (.iload_n 1, 1) := by decide +kernel
theorem dX3_roomOf_5 : decode cX3_roomOf 5 = .ok (.iadd, 1) := by decide +kernel
theorem dX3_roomOf_6 : decode cX3_roomOf 6 = .ok (.bipush 7, 2) := by decide +kernel
theorem dX3_roomOf_8 : decode cX3_roomOf 8 = .ok (.imul, 1) := by decide +kernel
theorem dX3_roomOf_9 : decode cX3_roomOf 9 = .ok (.iload_n 2, 1) := by decide +kernel
theorem dX3_roomOf_10 : decode cX3_roomOf 10 = .ok (.iadd, 1) := by decide +kernel
theorem dX3_roomOf_11 : decode cX3_roomOf 11 = .ok (.iconst 3, 1) := by decide +kernel
theorem dX3_roomOf_12 : decode cX3_roomOf 12 = .ok (.imul, 1) := by decide +kernel
theorem dX3_roomOf_13 : decode cX3_roomOf 13 = .ok (.iload_n 3, 1) := by decide +kernel
theorem dX3_roomOf_14 : decode cX3_roomOf 14 = .ok (.iadd, 1) := by decide +kernel
theorem dX3_roomOf_15 : decode cX3_roomOf 15 = .ok (.ireturn, 1) := by decide +kernel
set_option maxRecDepth 20000 in
theorem ggX3_roomBy_X3_most : GoodIn wsX3_roomBy wsX3_most := goodIn_r _ [4] (by decide +kernel) (by decide +kernel)
set_option maxRecDepth 20000 in
theorem gX3_roomBy_X3_most : GoodIn wsX3_roomBy (va_wsS RX3 46 yX3_most wsX3_most) := goodIn_app (goodIn_of _ (by decide +kernel)) ggX3_roomBy_X3_most
set_option maxRecDepth 20000 in
theorem ggX3_roomBy_X3_roomOf : GoodIn wsX3_roomBy wsX3_roomOf := goodIn_r _ [7] (by decide +kernel) (by decide +kernel)
set_option maxRecDepth 20000 in
theorem gX3_roomBy_X3_roomOf : GoodIn wsX3_roomBy (va_wsS RX3 144 yX3_roomOf wsX3_roomOf) := goodIn_app (goodIn_of _ (by decide +kernel)) ggX3_roomBy_X3_roomOf
set_option maxRecDepth 20000 in
theorem ggX3_roomBy_X3_goesOver : GoodIn wsX3_roomBy wsX3_goesOver := goodIn_r _ [11, 12, 13, 14, 3, 15, 16, 17, 18, 19, 20, 21, 22, 23, 24, 25, 1, 2, 4, 26, 27, 28, 29, 33, 34, 35, 36, 37, 38, 39, 40, 41, 42, 43, 44, 45, 46, 47, 48] (by decide +kernel) (by decide +kernel)
set_option maxRecDepth 20000 in
theorem gX3_roomBy_X3_goesOver : GoodIn wsX3_roomBy (wsV RX3 67 RX3 yX3_goesOver wsX3_goesOver) := goodIn_app (goodIn_of _ (by decide +kernel)) ggX3_roomBy_X3_goesOver
set_option maxRecDepth 20000 in
theorem ggX3_roomBy_X3_swellsBy : GoodIn wsX3_roomBy wsX3_swellsBy := goodIn_r _ [32] (by decide +kernel) (by decide +kernel)
set_option maxRecDepth 20000 in
theorem gX3_roomBy_X3_swellsBy : GoodIn wsX3_roomBy (va_wsS RX3 71 yX3_swellsBy wsX3_swellsBy) := goodIn_app (goodIn_of _ (by decide +kernel)) ggX3_roomBy_X3_swellsBy
set_option maxRecDepth 20000 in
theorem ggX3_roomBy_X3_least : GoodIn wsX3_roomBy wsX3_least := goodIn_r _ [18] (by decide +kernel) (by decide +kernel)
set_option maxRecDepth 20000 in
theorem gX3_roomBy_X3_least : GoodIn wsX3_roomBy (va_wsS RX3 58 yX3_least wsX3_least) := goodIn_app (goodIn_of _ (by decide +kernel)) ggX3_roomBy_X3_least
set_option maxRecDepth 20000 in
theorem ggX3_roomBy_X3_coldBy : GoodIn wsX3_roomBy wsX3_coldBy := goodIn_r _ [15, 16, 17, 3, 18] (by decide +kernel) (by decide +kernel)
set_option maxRecDepth 20000 in
theorem gX3_roomBy_X3_coldBy : GoodIn wsX3_roomBy (va_wsS RX3 61 yX3_coldBy wsX3_coldBy) := goodIn_app (goodIn_of _ (by decide +kernel)) ggX3_roomBy_X3_coldBy
theorem dX3_roomBy_0 : decode cX3_roomBy 0 = .ok (.iload_n 1, 1) := by decide +kernel
theorem dX3_roomBy_1 : decode cX3_roomBy 1 = .ok (.iconst 3, 1) := by decide +kernel
theorem dX3_roomBy_2 : decode cX3_roomBy 2 = .ok (.irem, 1) := by decide +kernel
theorem dX3_roomBy_3 : decode cX3_roomBy 3 = .ok (.istore_n 3, 1) := by decide +kernel
theorem dX3_roomBy_4 : decode cX3_roomBy 4 = .ok (.iload_n 1, 1) := by decide +kernel
theorem dX3_roomBy_5 : decode cX3_roomBy 5 = .ok (.iconst 3, 1) := by decide +kernel
theorem dX3_roomBy_6 : decode cX3_roomBy 6 = .ok (.idiv, 1) := by decide +kernel
theorem dX3_roomBy_7 : decode cX3_roomBy 7 = .ok (.bipush 7, 2) := by decide +kernel
theorem dX3_roomBy_9 : decode cX3_roomBy 9 = .ok (.irem, 1) := by decide +kernel
theorem dX3_roomBy_10 : decode cX3_roomBy 10 = .ok (.istore 4, 2) := by decide +kernel
theorem dX3_roomBy_12 : decode cX3_roomBy 12 = .ok (.iload_n 1, 1) := by decide +kernel
theorem dX3_roomBy_13 : decode cX3_roomBy 13 = .ok (.bipush 21, 2) := by decide +kernel
theorem dX3_roomBy_15 : decode cX3_roomBy 15 = .ok (.idiv, 1) := by decide +kernel
theorem dX3_roomBy_16 : decode cX3_roomBy 16 = .ok (.bipush 21, 2) := by decide +kernel
theorem dX3_roomBy_18 : decode cX3_roomBy 18 = .ok (.irem, 1) := by decide +kernel
theorem dX3_roomBy_19 : decode cX3_roomBy 19 = .ok (.istore 5, 2) := by decide +kernel
theorem dX3_roomBy_21 : decode cX3_roomBy 21 = .ok (.iload_n 1, 1) := by decide +kernel
theorem dX3_roomBy_22 : decode cX3_roomBy 22 = .ok (.sipush 441, 3) := by decide +kernel
theorem dX3_roomBy_25 : decode cX3_roomBy 25 = .ok (.idiv, 1) := by decide +kernel
theorem dX3_roomBy_26 : decode cX3_roomBy 26 = .ok (.istore 6, 2) := by decide +kernel
theorem dX3_roomBy_28 : decode cX3_roomBy 28 = .ok (.iload_n 2, 1) := by decide +kernel
theorem dX3_roomBy_29 : decode cX3_roomBy 29 = .ok (.bipush 7, 2) := by decide +kernel
theorem dX3_roomBy_31 : decode cX3_roomBy 31 = .ok (.if_icmp .ne 26, 3) := by decide +kernel
theorem dX3_roomBy_34 : decode cX3_roomBy 34 = .ok (.iconst 0, 1) := by decide +kernel
theorem dX3_roomBy_35 : decode cX3_roomBy 35 = .ok (.iload 6, 2) := by decide +kernel
theorem dX3_roomBy_37 : decode cX3_roomBy 37 = .ok (.iconst 2, 1) := by decide +kernel
theorem dX3_roomBy_38 : decode cX3_roomBy 38 = .ok (.isub, 1) := by decide +kernel
theorem dX3_roomBy_39 : decode cX3_roomBy 39 = .ok (.invokestatic 46, 3) := by decide +kernel
theorem dX3_roomBy_42 : decode cX3_roomBy 42 = .ok (.iconst 0, 1) := by decide +kernel
theorem dX3_roomBy_43 : decode cX3_roomBy 43 = .ok (.iload 5, 2) := by decide +kernel
theorem dX3_roomBy_45 : decode cX3_roomBy 45 = .ok (.iconst 1, 1) := by decide +kernel
theorem dX3_roomBy_46 : decode cX3_roomBy 46 = .ok (.isub, 1) := by decide +kernel
theorem dX3_roomBy_47 : decode cX3_roomBy 47 = .ok (.invokestatic 46, 3) := by decide +kernel
theorem dX3_roomBy_50 : decode cX3_roomBy 50 = .ok (.iload 4, 2) := by decide +kernel
theorem dX3_roomBy_52 : decode cX3_roomBy 52 = .ok (.iload_n 3, 1) := by decide +kernel
theorem dX3_roomBy_53 : decode cX3_roomBy 53 = .ok (.invokestatic 144, 3) := by decide +kernel
theorem dX3_roomBy_56 : decode cX3_roomBy 56 = .ok (.ireturn, 1) := by decide +kernel
theorem dX3_roomBy_57 : decode cX3_roomBy 57 = .ok (.iload_n 2, 1) := by decide +kernel
theorem dX3_roomBy_58 : decode cX3_roomBy 58 = .ok (.iconst 5, 1) := by decide +kernel
theorem dX3_roomBy_59 : decode cX3_roomBy 59 = .ok (.if_icmp .ne 11, 3) := by decide +kernel
theorem dX3_roomBy_62 : decode cX3_roomBy 62 = .ok (.iload_n 3, 1) := by decide +kernel
theorem dX3_roomBy_63 : decode cX3_roomBy 63 = .ok (.iconst 2, 1) := by decide +kernel
theorem dX3_roomBy_64 : decode cX3_roomBy 64 = .ok (.if_icmp .ne 6, 3) := by decide +kernel
theorem dX3_roomBy_67 : decode cX3_roomBy 67 = .ok (.bipush (-9), 2) := by decide +kernel
theorem dX3_roomBy_69 : decode cX3_roomBy 69 = .ok (.ireturn, 1) := by decide +kernel
theorem dX3_roomBy_70 : decode cX3_roomBy 70 = .ok (.iload 4, 2) := by decide +kernel
theorem dX3_roomBy_72 : decode cX3_roomBy 72 = .ok (.aload_n 0, 1) := by decide +kernel
theorem dX3_roomBy_73 : decode cX3_roomBy 73 = .ok (.iload 4, 2) := by decide +kernel
theorem dX3_roomBy_75 : decode cX3_roomBy 75 = .ok (.iload_n 2, 1) := by decide +kernel
theorem dX3_roomBy_76 : decode cX3_roomBy 76 = .ok (.iload 6, 2) := by decide +kernel
theorem dX3_roomBy_78 : decode cX3_roomBy 78 = .ok (.iload 5, 2) := by decide +kernel
theorem dX3_roomBy_80 : decode cX3_roomBy 80 = .ok (.invokevirtual 67, 3) := by decide +kernel
theorem dX3_roomBy_83 : decode cX3_roomBy 83 = .ok (.ifCond .eq 7, 3) := by decide +kernel
theorem dX3_roomBy_86 : decode cX3_roomBy 86 = .ok (.iconst 1, 1) := by decide +kernel
theorem dX3_roomBy_87 : decode cX3_roomBy 87 = .ok (.goto 4, 3) := by decide +kernel
theorem dX3_roomBy_90 : decode cX3_roomBy 90 = .ok (.iconst 0, 1) := by decide +kernel
theorem dX3_roomBy_91 : decode cX3_roomBy 91 = .ok (.iadd, 1) := by decide +kernel
theorem dX3_roomBy_92 : decode cX3_roomBy 92 = .ok (.istore 7, 2) := by decide +kernel
theorem dX3_roomBy_94 : decode cX3_roomBy 94 = .ok (.bipush 30, 2) := by decide +kernel
theorem dX3_roomBy_96 : decode cX3_roomBy 96 = .ok (.iload 6, 2) := by decide +kernel
theorem dX3_roomBy_98 : decode cX3_roomBy 98 = .ok (.iload_n 2, 1) := by decide +kernel
theorem dX3_roomBy_99 : decode cX3_roomBy 99 = .ok (.invokestatic 71, 3) := by decide +kernel
theorem dX3_roomBy_102 : decode cX3_roomBy 102 = .ok (.iadd, 1) := by decide +kernel
theorem dX3_roomBy_103 : decode cX3_roomBy 103 = .ok (.invokestatic 58, 3) := by decide +kernel
theorem dX3_roomBy_106 : decode cX3_roomBy 106 = .ok (.iload_n 2, 1) := by decide +kernel
theorem dX3_roomBy_107 : decode cX3_roomBy 107 = .ok (.iload 5, 2) := by decide +kernel
theorem dX3_roomBy_109 : decode cX3_roomBy 109 = .ok (.invokestatic 61, 3) := by decide +kernel
theorem dX3_roomBy_112 : decode cX3_roomBy 112 = .ok (.iload 7, 2) := by decide +kernel
theorem dX3_roomBy_114 : decode cX3_roomBy 114 = .ok (.iload_n 3, 1) := by decide +kernel
theorem dX3_roomBy_115 : decode cX3_roomBy 115 = .ok (.iload_n 2, 1) := by decide +kernel
theorem dX3_roomBy_116 : decode cX3_roomBy 116 = .ok (.iconst 5, 1) := by decide +kernel
theorem dX3_roomBy_117 : decode cX3_roomBy 117 = .ok (.if_icmp .ne 7, 3) := by decide +kernel
theorem dX3_roomBy_120 : decode cX3_roomBy 120 = .ok (.iconst 1, 1) := by decide +kernel
theorem dX3_roomBy_121 : decode cX3_roomBy 121 = .ok (.goto 4, 3) := by decide +kernel
theorem dX3_roomBy_124 : decode cX3_roomBy 124 = .ok (.iconst 0, 1) := by decide +kernel
theorem dX3_roomBy_125 : decode cX3_roomBy 125 = .ok (.iadd, 1) := by decide +kernel
theorem dX3_roomBy_126 : decode cX3_roomBy 126 = .ok (.invokestatic 144, 3) := by decide +kernel
theorem dX3_roomBy_129 : decode cX3_roomBy 129 = .ok (.ireturn, 1) := by decide +kernel
set_option maxRecDepth 20000 in
theorem ggX3_costOf_X3_harmOf : GoodIn wsX3_costOf wsX3_harmOf := goodIn_r _ [4] (by decide +kernel) (by decide +kernel)
set_option maxRecDepth 20000 in
theorem gX3_costOf_X3_harmOf : GoodIn wsX3_costOf (va_wsS RX3 74 yX3_harmOf wsX3_harmOf) := goodIn_app (goodIn_of _ (by decide +kernel)) ggX3_costOf_X3_harmOf
set_option maxRecDepth 20000 in
theorem ggX3_costOf_X3_minutesOf : GoodIn wsX3_costOf wsX3_minutesOf := goodIn_r _ [7] (by decide +kernel) (by decide +kernel)
set_option maxRecDepth 20000 in
theorem gX3_costOf_X3_minutesOf : GoodIn wsX3_costOf (va_wsS RX3 77 yX3_minutesOf wsX3_minutesOf) := goodIn_app (goodIn_of _ (by decide +kernel)) ggX3_costOf_X3_minutesOf
theorem dX3_costOf_0 : decode cX3_costOf 0 = .ok (.iload_n 0, 1) := by decide +kernel
theorem dX3_costOf_1 : decode cX3_costOf 1 = .ok (.bipush 7, 2) := by decide +kernel
theorem dX3_costOf_3 : decode cX3_costOf 3 = .ok (.if_icmp .ne 15, 3) := by decide +kernel
theorem dX3_costOf_6 : decode cX3_costOf 6 = .ok (.iload_n 1, 1) := by decide +kernel
theorem dX3_costOf_7 : decode cX3_costOf 7 = .ok (.ifCond .eq 7, 3) := by decide +kernel
theorem dX3_costOf_10 : decode cX3_costOf 10 = .ok (.iconst 0, 1) := by decide +kernel
theorem dX3_costOf_11 : decode cX3_costOf 11 = .ok (.goto 22, 3) := by decide +kernel
theorem dX3_costOf_14 : decode cX3_costOf 14 = .ok (.iconst 5, 1) := by decide +kernel
theorem dX3_costOf_15 : decode cX3_costOf 15 = .ok (.goto 18, 3) := by decide +kernel
theorem dX3_costOf_18 : decode cX3_costOf 18 = .ok (.iload_n 1, 1) := by decide +kernel
theorem dX3_costOf_19 : decode cX3_costOf 19 = .ok (.ifCond .eq 10, 3) := by decide +kernel
theorem dX3_costOf_22 : decode cX3_costOf 22 = .ok (.iload_n 0, 1) := by decide +kernel
theorem dX3_costOf_23 : decode cX3_costOf 23 = .ok (.invokestatic 74, 3) := by decide +kernel
theorem dX3_costOf_26 : decode cX3_costOf 26 = .ok (.goto 7, 3) := by decide +kernel
theorem dX3_costOf_29 : decode cX3_costOf 29 = .ok (.iload_n 0, 1) := by decide +kernel
theorem dX3_costOf_30 : decode cX3_costOf 30 = .ok (.invokestatic 77, 3) := by decide +kernel
theorem dX3_costOf_33 : decode cX3_costOf 33 = .ok (.ireturn, 1) := by decide +kernel
set_option maxRecDepth 20000 in
theorem ggX3_leastFrom_X3_roomBy : GoodIn wsX3_leastFrom wsX3_roomBy := goodIn_r _ [8, 9, 10, 7, 11, 12, 13, 14, 15, 16, 17, 18, 3, 19, 20, 21, 22, 23, 24, 25, 26, 27, 28, 29, 30, 31, 32, 33, 34, 35, 36, 37, 38, 48, 49, 50, 51, 52, 53, 54, 55, 56, 57, 58, 59, 60, 61, 62, 63] (by decide +kernel) (by decide +kernel)
set_option maxRecDepth 20000 in
theorem gX3_leastFrom_X3_roomBy : GoodIn wsX3_leastFrom (wsV RX3 147 RX3 yX3_roomBy wsX3_roomBy) := goodIn_app (goodIn_of _ (by decide +kernel)) ggX3_leastFrom_X3_roomBy
set_option maxRecDepth 20000 in
theorem ggX3_leastFrom_X3_costOf : GoodIn wsX3_leastFrom wsX3_costOf := goodIn_r _ [41, 42, 43, 7, 44, 45, 46, 47] (by decide +kernel) (by decide +kernel)
set_option maxRecDepth 20000 in
theorem gX3_leastFrom_X3_costOf : GoodIn wsX3_leastFrom (va_wsS RX3 150 yX3_costOf wsX3_costOf) := goodIn_app (goodIn_of _ (by decide +kernel)) ggX3_leastFrom_X3_costOf
set_option maxRecDepth 20000 in
theorem ggX3_leastFrom_X3_least : GoodIn wsX3_leastFrom wsX3_least := goodIn_r _ [24] (by decide +kernel) (by decide +kernel)
set_option maxRecDepth 20000 in
theorem gX3_leastFrom_X3_least : GoodIn wsX3_leastFrom (va_wsS RX3 58 yX3_least wsX3_least) := goodIn_app (goodIn_of _ (by decide +kernel)) ggX3_leastFrom_X3_least
theorem dX3_leastFrom_0 : decode cX3_leastFrom 0 = .ok (.iconst 0, 1) := by decide +kernel
theorem dX3_leastFrom_1 : decode cX3_leastFrom 1 = .ok (.istore 4, 2) := by decide +kernel
theorem dX3_leastFrom_3 : decode cX3_leastFrom 3 = .ok (.iload 4, 2) := by decide +kernel
theorem dX3_leastFrom_5 : decode cX3_leastFrom 5 = .ok (.sipush 13671, 3) := by decide +kernel
theorem dX3_leastFrom_8 : decode cX3_leastFrom 8 = .ok (.if_icmp .ge 18, 3) := by decide +kernel
theorem dX3_leastFrom_11 : decode cX3_leastFrom 11 = .ok (.aload_n 0, 1) := by decide +kernel
theorem dX3_leastFrom_12 : decode cX3_leastFrom 12 = .ok (.getfield 34, 3) := by decide +kernel
theorem dX3_leastFrom_15 : decode cX3_leastFrom 15 = .ok (.iload 4, 2) := by decide +kernel
theorem dX3_leastFrom_17 : decode cX3_leastFrom 17 = .ok (.ldc 41, 2) := by decide +kernel
theorem dX3_leastFrom_19 : decode cX3_leastFrom 19 = .ok (.iastore, 1) := by decide +kernel
theorem dX3_leastFrom_20 : decode cX3_leastFrom 20 = .ok (.iinc 4 1, 3) := by decide +kernel
theorem dX3_leastFrom_23 : decode cX3_leastFrom 23 = .ok (.goto (-20), 3) := by decide +kernel
theorem dX3_leastFrom_26 : decode cX3_leastFrom 26 = .ok (.aload_n 0, 1) := by decide +kernel
theorem dX3_leastFrom_27 : decode cX3_leastFrom 27 = .ok (.getfield 34, 3) := by decide +kernel
theorem dX3_leastFrom_30 : decode cX3_leastFrom 30 = .ok (.iload_n 1, 1) := by decide +kernel
theorem dX3_leastFrom_31 : decode cX3_leastFrom 31 = .ok (.iconst 0, 1) := by decide +kernel
theorem dX3_leastFrom_32 : decode cX3_leastFrom 32 = .ok (.iastore, 1) := by decide +kernel
theorem dX3_leastFrom_33 : decode cX3_leastFrom 33 = .ok (.iconst 0, 1) := by decide +kernel
theorem dX3_leastFrom_34 : decode cX3_leastFrom 34 = .ok (.istore 4, 2) := by decide +kernel
theorem dX3_leastFrom_36 : decode cX3_leastFrom 36 = .ok (.iload 4, 2) := by decide +kernel
theorem dX3_leastFrom_38 : decode cX3_leastFrom 38 = .ok (.iload_n 2, 1) := by decide +kernel
theorem dX3_leastFrom_39 : decode cX3_leastFrom 39 = .ok (.if_icmp .gt 116, 3) := by decide +kernel
theorem dX3_leastFrom_42 : decode cX3_leastFrom 42 = .ok (.sipush 13670, 3) := by decide +kernel
theorem dX3_leastFrom_45 : decode cX3_leastFrom 45 = .ok (.istore 5, 2) := by decide +kernel
theorem dX3_leastFrom_47 : decode cX3_leastFrom 47 = .ok (.iload 5, 2) := by decide +kernel
theorem dX3_leastFrom_49 : decode cX3_leastFrom 49 = .ok (.ifCond .lt 100, 3) := by decide +kernel
theorem dX3_leastFrom_52 : decode cX3_leastFrom 52 = .ok (.aload_n 0, 1) := by decide +kernel
theorem dX3_leastFrom_53 : decode cX3_leastFrom 53 = .ok (.getfield 34, 3) := by decide +kernel
theorem dX3_leastFrom_56 : decode cX3_leastFrom 56 = .ok (.iload 5, 2) := by decide +kernel
theorem dX3_leastFrom_58 : decode cX3_leastFrom 58 = .ok (.iaload, 1) := by decide +kernel
theorem dX3_leastFrom_59 : decode cX3_leastFrom 59 = .ok (.iload 4, 2) := by decide +kernel
theorem dX3_leastFrom_61 : decode cX3_leastFrom 61 = .ok (.if_icmp .eq 6, 3) := by decide +kernel
theorem dX3_leastFrom_64 : decode cX3_leastFrom 64 = .ok (.goto 79, 3) := by decide +kernel
theorem dX3_leastFrom_67 : decode cX3_leastFrom 67 = .ok (.iload 5, 2) := by decide +kernel
theorem dX3_leastFrom_69 : decode cX3_leastFrom 69 = .ok (.iconst 3, 1) := by decide +kernel
theorem dX3_leastFrom_70 : decode cX3_leastFrom 70 = .ok (.idiv, 1) := by decide +kernel
theorem dX3_leastFrom_71 : decode cX3_leastFrom 71 = .ok (.bipush 7, 2) := by decide +kernel
theorem dX3_leastFrom_73 : decode cX3_leastFrom 73 = .ok (.irem, 1) := by decide +kernel
theorem dX3_leastFrom_74 : decode cX3_leastFrom 74 = .ok (.aload_n 0, 1) := by decide +kernel
theorem dX3_leastFrom_75 : decode cX3_leastFrom 75 = .ok (.getfield 9, 3) := by decide +kernel
theorem dX3_leastFrom_78 : decode cX3_leastFrom 78 = .ok (.iconst 0, 1) := by decide +kernel
theorem dX3_leastFrom_79 : decode cX3_leastFrom 79 = .ok (.iaload, 1) := by decide +kernel
theorem dX3_leastFrom_80 : decode cX3_leastFrom 80 = .ok (.if_icmp .ne 6, 3) := by decide +kernel
theorem dX3_leastFrom_83 : decode cX3_leastFrom 83 = .ok (.iload 4, 2) := by decide +kernel
theorem dX3_leastFrom_85 : decode cX3_leastFrom 85 = .ok (.ireturn, 1) := by decide +kernel
theorem dX3_leastFrom_86 : decode cX3_leastFrom 86 = .ok (.iconst 0, 1) := by decide +kernel
theorem dX3_leastFrom_87 : decode cX3_leastFrom 87 = .ok (.istore 6, 2) := by decide +kernel
theorem dX3_leastFrom_89 : decode cX3_leastFrom 89 = .ok (.iload 6, 2) := by decide +kernel
theorem dX3_leastFrom_91 : decode cX3_leastFrom 91 = .ok (.bipush 7, 2) := by decide +kernel
theorem dX3_leastFrom_93 : decode cX3_leastFrom 93 = .ok (.if_icmp .gt 50, 3) := by decide +kernel
theorem dX3_leastFrom_96 : decode cX3_leastFrom 96 = .ok (.aload_n 0, 1) := by decide +kernel
theorem dX3_leastFrom_97 : decode cX3_leastFrom 97 = .ok (.iload 5, 2) := by decide +kernel
theorem dX3_leastFrom_99 : decode cX3_leastFrom 99 = .ok (.iload 6, 2) := by decide +kernel
theorem dX3_leastFrom_101 : decode cX3_leastFrom 101 = .ok (.invokevirtual 147, 3) := by decide +kernel
theorem dX3_leastFrom_104 : decode cX3_leastFrom 104 = .ok (.istore 7, 2) := by decide +kernel
theorem dX3_leastFrom_106 : decode cX3_leastFrom 106 = .ok (.iload 7, 2) := by decide +kernel
theorem dX3_leastFrom_108 : decode cX3_leastFrom 108 = .ok (.ifCond .lt 29, 3) := by decide +kernel
theorem dX3_leastFrom_111 : decode cX3_leastFrom 111 = .ok (.aload_n 0, 1) := by decide +kernel
theorem dX3_leastFrom_112 : decode cX3_leastFrom 112 = .ok (.getfield 34, 3) := by decide +kernel
theorem dX3_leastFrom_115 : decode cX3_leastFrom 115 = .ok (.iload 7, 2) := by decide +kernel
theorem dX3_leastFrom_117 : decode cX3_leastFrom 117 = .ok (.aload_n 0, 1) := by decide +kernel
theorem dX3_leastFrom_118 : decode cX3_leastFrom 118 = .ok (.getfield 34, 3) := by decide +kernel
theorem dX3_leastFrom_121 : decode cX3_leastFrom 121 = .ok (.iload 7, 2) := by decide +kernel
theorem dX3_leastFrom_123 : decode cX3_leastFrom 123 = .ok (.iaload, 1) := by decide +kernel
theorem dX3_leastFrom_124 : decode cX3_leastFrom 124 = .ok (.iload 4, 2) := by decide +kernel
theorem dX3_leastFrom_126 : decode cX3_leastFrom 126 = .ok (.iload 6, 2) := by decide +kernel
theorem dX3_leastFrom_128 : decode cX3_leastFrom 128 = .ok (.iload_n 3, 1) := by decide +kernel
theorem dX3_leastFrom_129 : decode cX3_leastFrom 129 = .ok (.invokestatic 150, 3) := by decide +kernel
theorem dX3_leastFrom_132 : decode cX3_leastFrom 132 = .ok (.iadd, 1) := by decide +kernel
theorem dX3_leastFrom_133 : decode cX3_leastFrom 133 = .ok (.invokestatic 58, 3) := by decide +kernel
theorem dX3_leastFrom_136 : decode cX3_leastFrom 136 = .ok (.iastore, 1) := by decide +kernel
theorem dX3_leastFrom_137 : decode cX3_leastFrom 137 = .ok (.iinc 6 1, 3) := by decide +kernel
theorem dX3_leastFrom_140 : decode cX3_leastFrom 140 = .ok (.goto (-51), 3) := by decide +kernel
theorem dX3_leastFrom_143 : decode cX3_leastFrom 143 = .ok (.iinc 5 (-1), 3) := by decide +kernel
theorem dX3_leastFrom_146 : decode cX3_leastFrom 146 = .ok (.goto (-99), 3) := by decide +kernel
theorem dX3_leastFrom_149 : decode cX3_leastFrom 149 = .ok (.iinc 4 1, 3) := by decide +kernel
theorem dX3_leastFrom_152 : decode cX3_leastFrom 152 = .ok (.goto (-116), 3) := by decide +kernel
theorem dX3_leastFrom_155 : decode cX3_leastFrom 155 = .ok (.bipush (-9), 2) := by decide +kernel
theorem dX3_leastFrom_157 : decode cX3_leastFrom 157 = .ok (.ireturn, 1) := by decide +kernel
set_option maxRecDepth 20000 in
theorem ggX3_off_X3_isOff : GoodIn wsX3_off wsX3_isOff := goodIn_r _ [6, 1, 56, 57, 58, 59, 60, 61, 62, 63, 64, 65, 66, 67, 68, 69, 70, 71] (by decide +kernel) (by decide +kernel)
set_option maxRecDepth 20000 in
theorem gX3_off_X3_isOff : GoodIn wsX3_off (wsV RX3 110 RX3 yX3_isOff wsX3_isOff) := goodIn_app (goodIn_of _ (by decide +kernel)) ggX3_off_X3_isOff
set_option maxRecDepth 20000 in
theorem ggX3_off_X3_roomOf : GoodIn wsX3_off wsX3_roomOf := goodIn_r _ [9] (by decide +kernel) (by decide +kernel)
set_option maxRecDepth 20000 in
theorem gX3_off_X3_roomOf : GoodIn wsX3_off (va_wsS RX3 144 yX3_roomOf wsX3_roomOf) := goodIn_app (goodIn_of _ (by decide +kernel)) ggX3_off_X3_roomOf
set_option maxRecDepth 20000 in
theorem ggX3_off_X3_leastFrom : GoodIn wsX3_off wsX3_leastFrom := goodIn_r _ [13, 14, 15, 1, 16, 17, 18, 5, 19, 20, 21, 22, 7, 8, 9, 23, 24, 25, 26, 27, 28, 29, 30, 31, 32, 33, 34, 35, 36, 37, 38, 39, 40, 41, 42, 43, 44, 45, 46, 47, 48, 49, 50, 51, 52, 53, 54, 55, 56, 57, 58, 59, 60, 61, 62, 63, 64, 65, 66, 67, 68, 69, 70, 71] (by decide +kernel) (by decide +kernel)
set_option maxRecDepth 20000 in
theorem gX3_off_X3_leastFrom : GoodIn wsX3_off (wsV RX3 154 RX3 yX3_leastFrom wsX3_leastFrom) := goodIn_app (goodIn_of _ (by decide +kernel)) ggX3_off_X3_leastFrom
set_option maxRecDepth 20000 in
theorem ggX3_off_X3_costOf : GoodIn wsX3_off wsX3_costOf := goodIn_r _ [49, 50, 51, 5, 52, 53, 54, 55] (by decide +kernel) (by decide +kernel)
set_option maxRecDepth 20000 in
theorem gX3_off_X3_costOf : GoodIn wsX3_off (va_wsS RX3 150 yX3_costOf wsX3_costOf) := goodIn_app (goodIn_of _ (by decide +kernel)) ggX3_off_X3_costOf
set_option maxRecDepth 20000 in
theorem ggX3_off_X3_roomBy : GoodIn wsX3_off wsX3_roomBy := goodIn_r _ [19, 20, 21, 5, 22, 7, 8, 9, 23, 24, 25, 26, 1, 27, 28, 29, 30, 31, 32, 33, 34, 35, 36, 37, 38, 39, 40, 41, 42, 43, 44, 45, 46, 56, 57, 58, 59, 60, 61, 62, 63, 64, 65, 66, 67, 68, 69, 70, 71] (by decide +kernel) (by decide +kernel)
set_option maxRecDepth 20000 in
theorem gX3_off_X3_roomBy : GoodIn wsX3_off (wsV RX3 147 RX3 yX3_roomBy wsX3_roomBy) := goodIn_app (goodIn_of _ (by decide +kernel)) ggX3_off_X3_roomBy
theorem dX3_off_0 : decode cX3_off 0 = .ok (.aload_n 0, 1) := by decide +kernel
theorem dX3_off_1 : decode cX3_off 1 = .ok (.invokevirtual 110, 3) := by decide +kernel
theorem dX3_off_4 : decode cX3_off 4 = .ok (.ifCond .eq 14, 3) := by decide +kernel
theorem dX3_off_7 : decode cX3_off 7 = .ok (.iload_n 1, 1) := by decide +kernel
theorem dX3_off_8 : decode cX3_off 8 = .ok (.ifCond .ne 7, 3) := by decide +kernel
theorem dX3_off_11 : decode cX3_off 11 = .ok (.iconst 0, 1) := by decide +kernel
theorem dX3_off_12 : decode cX3_off 12 = .ok (.goto 5, 3) := by decide +kernel
theorem dX3_off_15 : decode cX3_off 15 = .ok (.bipush (-9), 2) := by decide +kernel
theorem dX3_off_17 : decode cX3_off 17 = .ok (.ireturn, 1) := by decide +kernel
theorem dX3_off_18 : decode cX3_off 18 = .ok (.aload_n 0, 1) := by decide +kernel
theorem dX3_off_19 : decode cX3_off 19 = .ok (.getfield 9, 3) := by decide +kernel
theorem dX3_off_22 : decode cX3_off 22 = .ok (.iconst 4, 1) := by decide +kernel
theorem dX3_off_23 : decode cX3_off 23 = .ok (.iaload, 1) := by decide +kernel
theorem dX3_off_24 : decode cX3_off 24 = .ok (.aload_n 0, 1) := by decide +kernel
theorem dX3_off_25 : decode cX3_off 25 = .ok (.getfield 9, 3) := by decide +kernel
theorem dX3_off_28 : decode cX3_off 28 = .ok (.iconst 5, 1) := by decide +kernel
theorem dX3_off_29 : decode cX3_off 29 = .ok (.iaload, 1) := by decide +kernel
theorem dX3_off_30 : decode cX3_off 30 = .ok (.aload_n 0, 1) := by decide +kernel
theorem dX3_off_31 : decode cX3_off 31 = .ok (.getfield 9, 3) := by decide +kernel
theorem dX3_off_34 : decode cX3_off 34 = .ok (.iconst 3, 1) := by decide +kernel
theorem dX3_off_35 : decode cX3_off 35 = .ok (.iaload, 1) := by decide +kernel
theorem dX3_off_36 : decode cX3_off 36 = .ok (.iconst 0, 1) := by decide +kernel
theorem dX3_off_37 : decode cX3_off 37 = .ok (.invokestatic 144, 3) := by decide +kernel
theorem dX3_off_40 : decode cX3_off 40 = .ok (.istore 4, 2) := by decide +kernel
theorem dX3_off_42 : decode cX3_off 42 = .ok (.aload_n 0, 1) := by decide +kernel
theorem dX3_off_43 : decode cX3_off 43 = .ok (.iload 4, 2) := by decide +kernel
theorem dX3_off_45 : decode cX3_off 45 = .ok (.iload_n 2, 1) := by decide +kernel
theorem dX3_off_46 : decode cX3_off 46 = .ok (.iload_n 3, 1) := by decide +kernel
theorem dX3_off_47 : decode cX3_off 47 = .ok (.invokevirtual 154, 3) := by decide +kernel
theorem dX3_off_50 : decode cX3_off 50 = .ok (.istore 5, 2) := by decide +kernel
theorem dX3_off_52 : decode cX3_off 52 = .ok (.iload_n 1, 1) := by decide +kernel
theorem dX3_off_53 : decode cX3_off 53 = .ok (.ifCond .eq 8, 3) := by decide +kernel
theorem dX3_off_56 : decode cX3_off 56 = .ok (.iload 5, 2) := by decide +kernel
theorem dX3_off_58 : decode cX3_off 58 = .ok (.ifCond .ge 6, 3) := by decide +kernel
theorem dX3_off_61 : decode cX3_off 61 = .ok (.iload 5, 2) := by decide +kernel
theorem dX3_off_63 : decode cX3_off 63 = .ok (.ireturn, 1) := by decide +kernel
theorem dX3_off_64 : decode cX3_off 64 = .ok (.iconst 0, 1) := by decide +kernel
theorem dX3_off_65 : decode cX3_off 65 = .ok (.istore 6, 2) := by decide +kernel
theorem dX3_off_67 : decode cX3_off 67 = .ok (.iload 6, 2) := by decide +kernel
theorem dX3_off_69 : decode cX3_off 69 = .ok (.bipush 7, 2) := by decide +kernel
theorem dX3_off_71 : decode cX3_off 71 = .ok (.if_icmp .gt 64, 3) := by decide +kernel
theorem dX3_off_74 : decode cX3_off 74 = .ok (.iload 5, 2) := by decide +kernel
theorem dX3_off_76 : decode cX3_off 76 = .ok (.iload 6, 2) := by decide +kernel
theorem dX3_off_78 : decode cX3_off 78 = .ok (.iload_n 3, 1) := by decide +kernel
theorem dX3_off_79 : decode cX3_off 79 = .ok (.invokestatic 150, 3) := by decide +kernel
theorem dX3_off_82 : decode cX3_off 82 = .ok (.isub, 1) := by decide +kernel
theorem dX3_off_83 : decode cX3_off 83 = .ok (.istore 7, 2) := by decide +kernel
theorem dX3_off_85 : decode cX3_off 85 = .ok (.aload_n 0, 1) := by decide +kernel
theorem dX3_off_86 : decode cX3_off 86 = .ok (.iload 4, 2) := by decide +kernel
theorem dX3_off_88 : decode cX3_off 88 = .ok (.iload 6, 2) := by decide +kernel
theorem dX3_off_90 : decode cX3_off 90 = .ok (.invokevirtual 147, 3) := by decide +kernel
theorem dX3_off_93 : decode cX3_off 93 = .ok (.istore 8, 2) := by decide +kernel
theorem dX3_off_95 : decode cX3_off 95 = .ok (.iload 7, 2) := by decide +kernel
theorem dX3_off_97 : decode cX3_off 97 = .ok (.ifCond .lt 32, 3) := by decide +kernel
theorem dX3_off_100 : decode cX3_off 100 = .ok (.iload 8, 2) := by decide +kernel
theorem dX3_off_102 : decode cX3_off 102 = .ok (.ifCond .lt 27, 3) := by decide +kernel
theorem dX3_off_105 : decode cX3_off 105 = .ok (.iload 8, 2) := by decide +kernel
theorem dX3_off_107 : decode cX3_off 107 = .ok (.iload 4, 2) := by decide +kernel
theorem dX3_off_109 : decode cX3_off 109 = .ok (.if_icmp .eq 20, 3) := by decide +kernel
theorem dX3_off_112 : decode cX3_off 112 = .ok (.aload_n 0, 1) := by decide +kernel
theorem dX3_off_113 : decode cX3_off 113 = .ok (.iload 8, 2) := by decide +kernel
theorem dX3_off_115 : decode cX3_off 115 = .ok (.iload 7, 2) := by decide +kernel
theorem dX3_off_117 : decode cX3_off 117 = .ok (.iload_n 3, 1) := by decide +kernel
theorem dX3_off_118 : decode cX3_off 118 = .ok (.invokevirtual 154, 3) := by decide +kernel
theorem dX3_off_121 : decode cX3_off 121 = .ok (.iload 7, 2) := by decide +kernel
theorem dX3_off_123 : decode cX3_off 123 = .ok (.if_icmp .ne 6, 3) := by decide +kernel
theorem dX3_off_126 : decode cX3_off 126 = .ok (.iload 6, 2) := by decide +kernel
theorem dX3_off_128 : decode cX3_off 128 = .ok (.ireturn, 1) := by decide +kernel
theorem dX3_off_129 : decode cX3_off 129 = .ok (.iinc 6 1, 3) := by decide +kernel
theorem dX3_off_132 : decode cX3_off 132 = .ok (.goto (-65), 3) := by decide +kernel
theorem dX3_off_135 : decode cX3_off 135 = .ok (.bipush (-9), 2) := by decide +kernel
theorem dX3_off_137 : decode cX3_off 137 = .ok (.ireturn, 1) := by decide +kernel
set_option maxRecDepth 20000 in
theorem ggX3_soonest_X3_isIn : GoodIn wsX3_soonest wsX3_isIn := goodIn_r _ [4] (by decide +kernel) (by decide +kernel)
set_option maxRecDepth 20000 in
theorem gX3_soonest_X3_isIn : GoodIn wsX3_soonest (va_wsS RX3 99 yX3_isIn wsX3_isIn) := goodIn_app (goodIn_of _ (by decide +kernel)) ggX3_soonest_X3_isIn
set_option maxRecDepth 20000 in
theorem ggX3_soonest_X3_no : GoodIn wsX3_soonest wsX3_no := goodIn_r _ [8, 9, 68, 69, 70, 71, 72, 73, 74, 75, 76, 77, 78, 79, 80, 81, 82, 83] (by decide +kernel) (by decide +kernel)
set_option maxRecDepth 20000 in
theorem gX3_soonest_X3_no : GoodIn wsX3_soonest (wsV RX3 42 RX3 yX3_no wsX3_no) := goodIn_app (goodIn_of _ (by decide +kernel)) ggX3_soonest_X3_no
set_option maxRecDepth 20000 in
theorem ggX3_soonest_X3_off : GoodIn wsX3_soonest wsX3_off := goodIn_r _ [13, 14, 15, 16, 17, 3, 18, 19, 20, 21, 22, 23, 24, 25, 26, 27, 28, 29, 30, 31, 32, 33, 34, 35, 36, 37, 38, 39, 40, 41, 42, 43, 44, 45, 46, 47, 48, 49, 50, 51, 52, 53, 54, 55, 56, 57, 58, 59, 60, 61, 62, 63, 64, 65, 66, 67, 68, 69, 70, 71, 72, 73, 74, 75, 76, 77, 78, 79, 80, 81, 82, 83] (by decide +kernel) (by decide +kernel)
set_option maxRecDepth 20000 in
theorem gX3_soonest_X3_off : GoodIn wsX3_soonest (wsV RX3 158 RX3 yX3_off wsX3_off) := goodIn_app (goodIn_of _ (by decide +kernel)) ggX3_soonest_X3_off
theorem dX3_soonest_0 : decode cX3_soonest 0 = .ok (.iload_n 1, 1) := by decide +kernel
theorem dX3_soonest_1 : decode cX3_soonest 1 = .ok (.iconst 0, 1) := by decide +kernel
theorem dX3_soonest_2 : decode cX3_soonest 2 = .ok (.iconst 1, 1) := by decide +kernel
theorem dX3_soonest_3 : decode cX3_soonest 3 = .ok (.invokestatic 99, 3) := by decide +kernel
theorem dX3_soonest_6 : decode cX3_soonest 6 = .ok (.ifCond .ne 12, 3) := by decide +kernel
theorem dX3_soonest_9 : decode cX3_soonest 9 = .ok (.aload_n 0, 1) := by decide +kernel
theorem dX3_soonest_10 : decode cX3_soonest 10 = .ok (.bipush (-2), 2) := by decide +kernel
theorem dX3_soonest_12 : decode cX3_soonest 12 = .ok (.invokevirtual 42, 3) := by decide +kernel
theorem dX3_soonest_15 : decode cX3_soonest 15 = .ok (.goto 11, 3) := by decide +kernel
theorem dX3_soonest_18 : decode cX3_soonest 18 = .ok (.aload_n 0, 1) := by decide +kernel
theorem dX3_soonest_19 : decode cX3_soonest 19 = .ok (.iload_n 1, 1) := by decide +kernel
theorem dX3_soonest_20 : decode cX3_soonest 20 = .ok (.bipush 120, 2) := by decide +kernel
theorem dX3_soonest_22 : decode cX3_soonest 22 = .ok (.iconst 0, 1) := by decide +kernel
theorem dX3_soonest_23 : decode cX3_soonest 23 = .ok (.invokevirtual 158, 3) := by decide +kernel
theorem dX3_soonest_26 : decode cX3_soonest 26 = .ok (.ireturn, 1) := by decide +kernel
set_option maxRecDepth 20000 in
theorem ggX3_gentlest_X3_isIn : GoodIn wsX3_gentlest wsX3_isIn := goodIn_r _ [4] (by decide +kernel) (by decide +kernel)
set_option maxRecDepth 20000 in
theorem gX3_gentlest_X3_isIn : GoodIn wsX3_gentlest (va_wsS RX3 99 yX3_isIn wsX3_isIn) := goodIn_app (goodIn_of _ (by decide +kernel)) ggX3_gentlest_X3_isIn
set_option maxRecDepth 20000 in
theorem ggX3_gentlest_X3_no : GoodIn wsX3_gentlest wsX3_no := goodIn_r _ [8, 9, 68, 69, 70, 71, 72, 73, 74, 75, 76, 77, 78, 79, 80, 81, 82, 83] (by decide +kernel) (by decide +kernel)
set_option maxRecDepth 20000 in
theorem gX3_gentlest_X3_no : GoodIn wsX3_gentlest (wsV RX3 42 RX3 yX3_no wsX3_no) := goodIn_app (goodIn_of _ (by decide +kernel)) ggX3_gentlest_X3_no
set_option maxRecDepth 20000 in
theorem ggX3_gentlest_X3_off : GoodIn wsX3_gentlest wsX3_off := goodIn_r _ [13, 14, 15, 16, 17, 3, 18, 19, 20, 21, 22, 23, 24, 25, 26, 27, 28, 29, 30, 31, 32, 33, 34, 35, 36, 37, 38, 39, 40, 41, 42, 43, 44, 45, 46, 47, 48, 49, 50, 51, 52, 53, 54, 55, 56, 57, 58, 59, 60, 61, 62, 63, 64, 65, 66, 67, 68, 69, 70, 71, 72, 73, 74, 75, 76, 77, 78, 79, 80, 81, 82, 83] (by decide +kernel) (by decide +kernel)
set_option maxRecDepth 20000 in
theorem gX3_gentlest_X3_off : GoodIn wsX3_gentlest (wsV RX3 158 RX3 yX3_off wsX3_off) := goodIn_app (goodIn_of _ (by decide +kernel)) ggX3_gentlest_X3_off
theorem dX3_gentlest_0 : decode cX3_gentlest 0 = .ok (.iload_n 1, 1) := by decide +kernel
theorem dX3_gentlest_1 : decode cX3_gentlest 1 = .ok (.iconst 0, 1) := by decide +kernel
theorem dX3_gentlest_2 : decode cX3_gentlest 2 = .ok (.iconst 1, 1) := by decide +kernel
theorem dX3_gentlest_3 : decode cX3_gentlest 3 = .ok (.invokestatic 99, 3) := by decide +kernel
theorem dX3_gentlest_6 : decode cX3_gentlest 6 = .ok (.ifCond .ne 12, 3) := by decide +kernel
theorem dX3_gentlest_9 : decode cX3_gentlest 9 = .ok (.aload_n 0, 1) := by decide +kernel
theorem dX3_gentlest_10 : decode cX3_gentlest 10 = .ok (.bipush (-2), 2) := by decide +kernel
theorem dX3_gentlest_12 : decode cX3_gentlest 12 = .ok (.invokevirtual 42, 3) := by decide +kernel
theorem dX3_gentlest_15 : decode cX3_gentlest 15 = .ok (.goto 11, 3) := by decide +kernel
theorem dX3_gentlest_18 : decode cX3_gentlest 18 = .ok (.aload_n 0, 1) := by decide +kernel
theorem dX3_gentlest_19 : decode cX3_gentlest 19 = .ok (.iload_n 1, 1) := by decide +kernel
theorem dX3_gentlest_20 : decode cX3_gentlest 20 = .ok (.bipush 60, 2) := by decide +kernel
theorem dX3_gentlest_22 : decode cX3_gentlest 22 = .ok (.iconst 1, 1) := by decide +kernel
theorem dX3_gentlest_23 : decode cX3_gentlest 23 = .ok (.invokevirtual 158, 3) := by decide +kernel
theorem dX3_gentlest_26 : decode cX3_gentlest 26 = .ok (.ireturn, 1) := by decide +kernel
set_option maxRecDepth 20000 in
theorem ggX3_danger_X3_no : GoodIn wsX3_danger wsX3_no := goodIn_r _ [6, 7, 14, 15, 16, 17, 18, 19, 20, 21, 22, 23, 24, 25, 26, 27, 28, 29] (by decide +kernel) (by decide +kernel)
set_option maxRecDepth 20000 in
theorem gX3_danger_X3_no : GoodIn wsX3_danger (wsV RX3 42 RX3 yX3_no wsX3_no) := goodIn_app (goodIn_of _ (by decide +kernel)) ggX3_danger_X3_no
set_option maxRecDepth 20000 in
theorem ggX3_danger_X3_least : GoodIn wsX3_danger wsX3_least := goodIn_r _ [10] (by decide +kernel) (by decide +kernel)
set_option maxRecDepth 20000 in
theorem gX3_danger_X3_least : GoodIn wsX3_danger (va_wsS RX3 58 yX3_least wsX3_least) := goodIn_app (goodIn_of _ (by decide +kernel)) ggX3_danger_X3_least
set_option maxRecDepth 20000 in
theorem ggX3_danger_X3_most : GoodIn wsX3_danger wsX3_most := goodIn_r _ [13] (by decide +kernel) (by decide +kernel)
set_option maxRecDepth 20000 in
theorem gX3_danger_X3_most : GoodIn wsX3_danger (va_wsS RX3 46 yX3_most wsX3_most) := goodIn_app (goodIn_of _ (by decide +kernel)) ggX3_danger_X3_most
theorem dX3_danger_0 : decode cX3_danger 0 = .ok (.iload_n 1, 1) := by decide +kernel
theorem dX3_danger_1 : decode cX3_danger 1 = .ok (.ifCond .ge 10, 3) := by decide +kernel
theorem dX3_danger_4 : decode cX3_danger 4 = .ok (.aload_n 0, 1) := by decide +kernel
theorem dX3_danger_5 : decode cX3_danger 5 = .ok (.bipush (-4), 2) := by decide +kernel
theorem dX3_danger_7 : decode cX3_danger 7 = .ok (.invokevirtual 42, 3) := by decide +kernel
theorem dX3_danger_10 : decode cX3_danger 10 = .ok (.ireturn, 1) := by decide +kernel
theorem dX3_danger_11 : decode cX3_danger 11 = .ok (.iload_n 1, 1) := by decide +kernel
theorem dX3_danger_12 : decode cX3_danger 12 = .ok (.bipush 9, 2) := by decide +kernel
theorem dX3_danger_14 : decode cX3_danger 14 = .ok (.if_icmp .le 10, 3) := by decide +kernel
theorem dX3_danger_17 : decode cX3_danger 17 = .ok (.aload_n 0, 1) := by decide +kernel
theorem dX3_danger_18 : decode cX3_danger 18 = .ok (.bipush (-6), 2) := by decide +kernel
theorem dX3_danger_20 : decode cX3_danger 20 = .ok (.invokevirtual 42, 3) := by decide +kernel
theorem dX3_danger_23 : decode cX3_danger 23 = .ok (.ireturn, 1) := by decide +kernel
theorem dX3_danger_24 : decode cX3_danger 24 = .ok (.iconst 0, 1) := by decide +kernel
theorem dX3_danger_25 : decode cX3_danger 25 = .ok (.bipush 99, 2) := by decide +kernel
theorem dX3_danger_27 : decode cX3_danger 27 = .ok (.aload_n 0, 1) := by decide +kernel
theorem dX3_danger_28 : decode cX3_danger 28 = .ok (.getfield 9, 3) := by decide +kernel
theorem dX3_danger_31 : decode cX3_danger 31 = .ok (.bipush 6, 2) := by decide +kernel
theorem dX3_danger_33 : decode cX3_danger 33 = .ok (.iaload, 1) := by decide +kernel
theorem dX3_danger_34 : decode cX3_danger 34 = .ok (.iconst 5, 1) := by decide +kernel
theorem dX3_danger_35 : decode cX3_danger 35 = .ok (.iload_n 1, 1) := by decide +kernel
theorem dX3_danger_36 : decode cX3_danger 36 = .ok (.imul, 1) := by decide +kernel
theorem dX3_danger_37 : decode cX3_danger 37 = .ok (.iadd, 1) := by decide +kernel
theorem dX3_danger_38 : decode cX3_danger 38 = .ok (.invokestatic 58, 3) := by decide +kernel
theorem dX3_danger_41 : decode cX3_danger 41 = .ok (.bipush 9, 2) := by decide +kernel
theorem dX3_danger_43 : decode cX3_danger 43 = .ok (.isub, 1) := by decide +kernel
theorem dX3_danger_44 : decode cX3_danger 44 = .ok (.invokestatic 46, 3) := by decide +kernel
theorem dX3_danger_47 : decode cX3_danger 47 = .ok (.ireturn, 1) := by decide +kernel
theorem dX3_areHeats_0 : decode cX3_areHeats 0 = .ok (.iconst 0, 1) := by decide +kernel
theorem dX3_areHeats_1 : decode cX3_areHeats 1 = .ok (.istore_n 1, 1) := by decide +kernel
theorem dX3_areHeats_2 : decode cX3_areHeats 2 = .ok (.iload_n 1, 1) := by decide +kernel
theorem dX3_areHeats_3 : decode cX3_areHeats 3 = .ok (.aload_n 0, 1) := by decide +kernel
theorem dX3_areHeats_4 : decode cX3_areHeats 4 = .ok (.getfield 161, 3) := by decide +kernel
theorem dX3_areHeats_7 : decode cX3_areHeats 7 = .ok (.if_icmp .ge 22, 3) := by decide +kernel
theorem dX3_areHeats_10 : decode cX3_areHeats 10 = .ok (.aload_n 0, 1) := by decide +kernel
theorem dX3_areHeats_11 : decode cX3_areHeats 11 = .ok (.getfield 25, 3) := by decide +kernel
theorem dX3_areHeats_14 : decode cX3_areHeats 14 = .ok (.iload_n 1, 1) := by decide +kernel
theorem dX3_areHeats_15 : decode cX3_areHeats 15 = .ok (.iaload, 1) := by decide +kernel
theorem dX3_areHeats_16 : decode cX3_areHeats 16 = .ok (.bipush 9, 2) := by decide +kernel
theorem dX3_areHeats_18 : decode cX3_areHeats 18 = .ok (.if_icmp .le 5, 3) := by decide +kernel
theorem dX3_areHeats_21 : decode cX3_areHeats 21 = .ok (.iconst 0, 1) := by decide +kernel
theorem dX3_areHeats_22 : decode cX3_areHeats 22 = .ok (.ireturn, 1) := by decide +kernel
theorem dX3_areHeats_23 : decode cX3_areHeats 23 = .ok (.iinc 1 1, 3) := by decide +kernel
theorem dX3_areHeats_26 : decode cX3_areHeats 26 = .ok (.goto (-24), 3) := by decide +kernel
theorem dX3_areHeats_29 : decode cX3_areHeats 29 = .ok (.aload_n 0, 1) := by decide +kernel
theorem dX3_areHeats_30 : decode cX3_areHeats 30 = .ok (.getfield 161, 3) := by decide +kernel
theorem dX3_areHeats_33 : decode cX3_areHeats 33 = .ok (.bipush 12, 2) := by decide +kernel
theorem dX3_areHeats_35 : decode cX3_areHeats 35 = .ok (.if_icmp .ne 7, 3) := by decide +kernel
theorem dX3_areHeats_38 : decode cX3_areHeats 38 = .ok (.iconst 1, 1) := by decide +kernel
theorem dX3_areHeats_39 : decode cX3_areHeats 39 = .ok (.goto 4, 3) := by decide +kernel
theorem dX3_areHeats_42 : decode cX3_areHeats 42 = .ok (.iconst 0, 1) := by decide +kernel
theorem dX3_areHeats_43 : decode cX3_areHeats 43 = .ok (.ireturn, 1) := by decide +kernel
set_option maxRecDepth 20000 in
theorem ggX3_sticksIn_X3_partBy : GoodIn wsX3_sticksIn wsX3_partBy := goodIn_r _ [7, 2, 8, 9, 6, 10, 11, 12, 13, 14, 15, 16, 17, 18, 19, 20, 21, 22, 23, 24, 25, 26, 27, 28, 29] (by decide +kernel) (by decide +kernel)
set_option maxRecDepth 20000 in
theorem gX3_sticksIn_X3_partBy : GoodIn wsX3_sticksIn (wsV RX3 54 RX3 yX3_partBy wsX3_partBy) := goodIn_app (goodIn_of _ (by decide +kernel)) ggX3_sticksIn_X3_partBy
theorem dX3_sticksIn_0 : decode cX3_sticksIn 0 = .ok (.aload_n 0, 1) := by decide +kernel
theorem dX3_sticksIn_1 : decode cX3_sticksIn 1 = .ok (.getfield 25, 3) := by decide +kernel
theorem dX3_sticksIn_4 : decode cX3_sticksIn 4 = .ok (.iload_n 1, 1) := by decide +kernel
theorem dX3_sticksIn_5 : decode cX3_sticksIn 5 = .ok (.iaload, 1) := by decide +kernel
theorem dX3_sticksIn_6 : decode cX3_sticksIn 6 = .ok (.istore_n 3, 1) := by decide +kernel
theorem dX3_sticksIn_7 : decode cX3_sticksIn 7 = .ok (.iconst 0, 1) := by decide +kernel
theorem dX3_sticksIn_8 : decode cX3_sticksIn 8 = .ok (.istore 4, 2) := by decide +kernel
theorem dX3_sticksIn_10 : decode cX3_sticksIn 10 = .ok (.iload 4, 2) := by decide +kernel
theorem dX3_sticksIn_12 : decode cX3_sticksIn 12 = .ok (.aload_n 0, 1) := by decide +kernel
theorem dX3_sticksIn_13 : decode cX3_sticksIn 13 = .ok (.getfield 9, 3) := by decide +kernel
theorem dX3_sticksIn_16 : decode cX3_sticksIn 16 = .ok (.iconst 0, 1) := by decide +kernel
theorem dX3_sticksIn_17 : decode cX3_sticksIn 17 = .ok (.iaload, 1) := by decide +kernel
theorem dX3_sticksIn_18 : decode cX3_sticksIn 18 = .ok (.if_icmp .ge 31, 3) := by decide +kernel
theorem dX3_sticksIn_21 : decode cX3_sticksIn 21 = .ok (.aload_n 0, 1) := by decide +kernel
theorem dX3_sticksIn_22 : decode cX3_sticksIn 22 = .ok (.iload 4, 2) := by decide +kernel
theorem dX3_sticksIn_24 : decode cX3_sticksIn 24 = .ok (.iconst 2, 1) := by decide +kernel
theorem dX3_sticksIn_25 : decode cX3_sticksIn 25 = .ok (.iload_n 3, 1) := by decide +kernel
theorem dX3_sticksIn_26 : decode cX3_sticksIn 26 = .ok (.imul, 1) := by decide +kernel
theorem dX3_sticksIn_27 : decode cX3_sticksIn 27 = .ok (.bipush 9, 2) := by decide +kernel
theorem dX3_sticksIn_29 : decode cX3_sticksIn 29 = .ok (.iload_n 3, 1) := by decide +kernel
theorem dX3_sticksIn_30 : decode cX3_sticksIn 30 = .ok (.isub, 1) := by decide +kernel
theorem dX3_sticksIn_31 : decode cX3_sticksIn 31 = .ok (.iload_n 3, 1) := by decide +kernel
theorem dX3_sticksIn_32 : decode cX3_sticksIn 32 = .ok (.invokevirtual 54, 3) := by decide +kernel
theorem dX3_sticksIn_35 : decode cX3_sticksIn 35 = .ok (.iload_n 2, 1) := by decide +kernel
theorem dX3_sticksIn_36 : decode cX3_sticksIn 36 = .ok (.iconst 4, 1) := by decide +kernel
theorem dX3_sticksIn_37 : decode cX3_sticksIn 37 = .ok (.iadd, 1) := by decide +kernel
theorem dX3_sticksIn_38 : decode cX3_sticksIn 38 = .ok (.if_icmp .le 5, 3) := by decide +kernel
theorem dX3_sticksIn_41 : decode cX3_sticksIn 41 = .ok (.iconst 1, 1) := by decide +kernel
theorem dX3_sticksIn_42 : decode cX3_sticksIn 42 = .ok (.ireturn, 1) := by decide +kernel
theorem dX3_sticksIn_43 : decode cX3_sticksIn 43 = .ok (.iinc 4 1, 3) := by decide +kernel
theorem dX3_sticksIn_46 : decode cX3_sticksIn 46 = .ok (.goto (-36), 3) := by decide +kernel
theorem dX3_sticksIn_49 : decode cX3_sticksIn 49 = .ok (.iconst 0, 1) := by decide +kernel
theorem dX3_sticksIn_50 : decode cX3_sticksIn 50 = .ok (.ireturn, 1) := by decide +kernel
set_option maxRecDepth 20000 in
theorem ggX3_fallsIn_X3_partBy : GoodIn wsX3_fallsIn wsX3_partBy := goodIn_r _ [7, 2, 8, 9, 6, 10, 11, 12, 13, 14, 15, 16, 17, 18, 19, 20, 21, 22, 23, 24, 25, 26, 27, 28, 29] (by decide +kernel) (by decide +kernel)
set_option maxRecDepth 20000 in
theorem gX3_fallsIn_X3_partBy : GoodIn wsX3_fallsIn (wsV RX3 54 RX3 yX3_partBy wsX3_partBy) := goodIn_app (goodIn_of _ (by decide +kernel)) ggX3_fallsIn_X3_partBy
theorem dX3_fallsIn_0 : decode cX3_fallsIn 0 = .ok (.aload_n 0, 1) := by decide +kernel
theorem dX3_fallsIn_1 : decode cX3_fallsIn 1 = .ok (.getfield 25, 3) := by decide +kernel
theorem dX3_fallsIn_4 : decode cX3_fallsIn 4 = .ok (.iload_n 1, 1) := by decide +kernel
theorem dX3_fallsIn_5 : decode cX3_fallsIn 5 = .ok (.iaload, 1) := by decide +kernel
theorem dX3_fallsIn_6 : decode cX3_fallsIn 6 = .ok (.istore_n 3, 1) := by decide +kernel
theorem dX3_fallsIn_7 : decode cX3_fallsIn 7 = .ok (.iconst 0, 1) := by decide +kernel
theorem dX3_fallsIn_8 : decode cX3_fallsIn 8 = .ok (.istore 4, 2) := by decide +kernel
theorem dX3_fallsIn_10 : decode cX3_fallsIn 10 = .ok (.iload 4, 2) := by decide +kernel
theorem dX3_fallsIn_12 : decode cX3_fallsIn 12 = .ok (.aload_n 0, 1) := by decide +kernel
theorem dX3_fallsIn_13 : decode cX3_fallsIn 13 = .ok (.getfield 9, 3) := by decide +kernel
theorem dX3_fallsIn_16 : decode cX3_fallsIn 16 = .ok (.iconst 0, 1) := by decide +kernel
theorem dX3_fallsIn_17 : decode cX3_fallsIn 17 = .ok (.iaload, 1) := by decide +kernel
theorem dX3_fallsIn_18 : decode cX3_fallsIn 18 = .ok (.if_icmp .ge 32, 3) := by decide +kernel
theorem dX3_fallsIn_21 : decode cX3_fallsIn 21 = .ok (.aload_n 0, 1) := by decide +kernel
theorem dX3_fallsIn_22 : decode cX3_fallsIn 22 = .ok (.iload 4, 2) := by decide +kernel
theorem dX3_fallsIn_24 : decode cX3_fallsIn 24 = .ok (.iconst 2, 1) := by decide +kernel
theorem dX3_fallsIn_25 : decode cX3_fallsIn 25 = .ok (.iload_n 3, 1) := by decide +kernel
theorem dX3_fallsIn_26 : decode cX3_fallsIn 26 = .ok (.imul, 1) := by decide +kernel
theorem dX3_fallsIn_27 : decode cX3_fallsIn 27 = .ok (.bipush 9, 2) := by decide +kernel
theorem dX3_fallsIn_29 : decode cX3_fallsIn 29 = .ok (.iload_n 3, 1) := by decide +kernel
theorem dX3_fallsIn_30 : decode cX3_fallsIn 30 = .ok (.isub, 1) := by decide +kernel
theorem dX3_fallsIn_31 : decode cX3_fallsIn 31 = .ok (.iload_n 3, 1) := by decide +kernel
theorem dX3_fallsIn_32 : decode cX3_fallsIn 32 = .ok (.invokevirtual 54, 3) := by decide +kernel
theorem dX3_fallsIn_35 : decode cX3_fallsIn 35 = .ok (.iload_n 2, 1) := by decide +kernel
theorem dX3_fallsIn_36 : decode cX3_fallsIn 36 = .ok (.bipush 9, 2) := by decide +kernel
theorem dX3_fallsIn_38 : decode cX3_fallsIn 38 = .ok (.isub, 1) := by decide +kernel
theorem dX3_fallsIn_39 : decode cX3_fallsIn 39 = .ok (.if_icmp .lt 5, 3) := by decide +kernel
theorem dX3_fallsIn_42 : decode cX3_fallsIn 42 = .ok (.iconst 0, 1) := by decide +kernel
theorem dX3_fallsIn_43 : decode cX3_fallsIn 43 = .ok (.ireturn, 1) := by decide +kernel
theorem dX3_fallsIn_44 : decode cX3_fallsIn 44 = .ok (.iinc 4 1, 3) := by decide +kernel
theorem dX3_fallsIn_47 : decode cX3_fallsIn 47 = .ok (.goto (-37), 3) := by decide +kernel
theorem dX3_fallsIn_50 : decode cX3_fallsIn 50 = .ok (.iconst 1, 1) := by decide +kernel
theorem dX3_fallsIn_51 : decode cX3_fallsIn 51 = .ok (.ireturn, 1) := by decide +kernel
set_option maxRecDepth 20000 in
theorem ggX3_wrongSize_X3_areHeats : GoodIn wsX3_wrongSize wsX3_areHeats := goodIn_r _ [5, 6, 7, 8, 9, 10, 11, 12, 13, 14, 15, 16, 17, 18, 19, 20, 21, 22, 23] (by decide +kernel) (by decide +kernel)
set_option maxRecDepth 20000 in
theorem gX3_wrongSize_X3_areHeats : GoodIn wsX3_wrongSize (wsV RX3 164 RX3 yX3_areHeats wsX3_areHeats) := goodIn_app (goodIn_of _ (by decide +kernel)) ggX3_wrongSize_X3_areHeats
theorem dX3_wrongSize_0 : decode cX3_wrongSize 0 = .ok (.iload_n 1, 1) := by decide +kernel
theorem dX3_wrongSize_1 : decode cX3_wrongSize 1 = .ok (.bipush 100, 2) := by decide +kernel
theorem dX3_wrongSize_3 : decode cX3_wrongSize 3 = .ok (.if_icmp .ge 8, 3) := by decide +kernel
theorem dX3_wrongSize_6 : decode cX3_wrongSize 6 = .ok (.bipush (-4), 2) := by decide +kernel
theorem dX3_wrongSize_8 : decode cX3_wrongSize 8 = .ok (.goto 28, 3) := by decide +kernel
theorem dX3_wrongSize_11 : decode cX3_wrongSize 11 = .ok (.iload_n 1, 1) := by decide +kernel
theorem dX3_wrongSize_12 : decode cX3_wrongSize 12 = .ok (.sipush 250, 3) := by decide +kernel
theorem dX3_wrongSize_15 : decode cX3_wrongSize 15 = .ok (.if_icmp .le 8, 3) := by decide +kernel
theorem dX3_wrongSize_18 : decode cX3_wrongSize 18 = .ok (.bipush (-6), 2) := by decide +kernel
theorem dX3_wrongSize_20 : decode cX3_wrongSize 20 = .ok (.goto 16, 3) := by decide +kernel
theorem dX3_wrongSize_23 : decode cX3_wrongSize 23 = .ok (.aload_n 0, 1) := by decide +kernel
theorem dX3_wrongSize_24 : decode cX3_wrongSize 24 = .ok (.invokevirtual 164, 3) := by decide +kernel
theorem dX3_wrongSize_27 : decode cX3_wrongSize 27 = .ok (.ifCond .eq 7, 3) := by decide +kernel
theorem dX3_wrongSize_30 : decode cX3_wrongSize 30 = .ok (.iconst 0, 1) := by decide +kernel
theorem dX3_wrongSize_31 : decode cX3_wrongSize 31 = .ok (.goto 5, 3) := by decide +kernel
theorem dX3_wrongSize_34 : decode cX3_wrongSize 34 = .ok (.bipush (-3), 2) := by decide +kernel
theorem dX3_wrongSize_36 : decode cX3_wrongSize 36 = .ok (.ireturn, 1) := by decide +kernel
set_option maxRecDepth 20000 in
theorem ggX3_sticks_X3_wrongSize : GoodIn wsX3_sticks wsX3_wrongSize := goodIn_r _ [5, 6, 7, 8, 4, 9, 10, 11, 32, 33, 34, 35, 36, 37, 38, 39, 40, 41, 42, 43, 44, 45, 46, 47] (by decide +kernel) (by decide +kernel)
set_option maxRecDepth 20000 in
theorem gX3_sticks_X3_wrongSize : GoodIn wsX3_sticks (wsV RX3 167 RX3 yX3_wrongSize wsX3_wrongSize) := goodIn_app (goodIn_of _ (by decide +kernel)) ggX3_sticks_X3_wrongSize
set_option maxRecDepth 20000 in
theorem ggX3_sticks_X3_no : GoodIn wsX3_sticks wsX3_no := goodIn_r _ [15, 16, 32, 33, 34, 35, 36, 37, 38, 39, 40, 41, 42, 43, 44, 45, 46, 47] (by decide +kernel) (by decide +kernel)
set_option maxRecDepth 20000 in
theorem gX3_sticks_X3_no : GoodIn wsX3_sticks (wsV RX3 42 RX3 yX3_no wsX3_no) := goodIn_app (goodIn_of _ (by decide +kernel)) ggX3_sticks_X3_no
set_option maxRecDepth 20000 in
theorem ggX3_sticks_X3_sticksIn : GoodIn wsX3_sticks wsX3_sticksIn := goodIn_r _ [20, 11, 21, 22, 23, 24, 4, 25, 26, 27, 28, 29, 30, 31, 32, 33, 34, 35, 36, 37, 38, 39, 40, 41, 42, 43, 44, 45, 46, 47] (by decide +kernel) (by decide +kernel)
set_option maxRecDepth 20000 in
theorem gX3_sticks_X3_sticksIn : GoodIn wsX3_sticks (wsV RX3 170 RX3 yX3_sticksIn wsX3_sticksIn) := goodIn_app (goodIn_of _ (by decide +kernel)) ggX3_sticks_X3_sticksIn
theorem dX3_sticks_0 : decode cX3_sticks 0 = .ok (.aload_n 0, 1) := by decide +kernel
theorem dX3_sticks_1 : decode cX3_sticks 1 = .ok (.iload_n 1, 1) := by decide +kernel
theorem dX3_sticks_2 : decode cX3_sticks 2 = .ok (.invokevirtual 167, 3) := by decide +kernel
theorem dX3_sticks_5 : decode cX3_sticks 5 = .ok (.istore_n 2, 1) := by decide +kernel
theorem dX3_sticks_6 : decode cX3_sticks 6 = .ok (.iload_n 2, 1) := by decide +kernel
theorem dX3_sticks_7 : decode cX3_sticks 7 = .ok (.ifCond .eq 9, 3) := by decide +kernel
theorem dX3_sticks_10 : decode cX3_sticks 10 = .ok (.aload_n 0, 1) := by decide +kernel
theorem dX3_sticks_11 : decode cX3_sticks 11 = .ok (.iload_n 2, 1) := by decide +kernel
theorem dX3_sticks_12 : decode cX3_sticks 12 = .ok (.invokevirtual 42, 3) := by decide +kernel
theorem dX3_sticks_15 : decode cX3_sticks 15 = .ok (.ireturn, 1) := by decide +kernel
theorem dX3_sticks_16 : decode cX3_sticks 16 = .ok (.iconst 0, 1) := by decide +kernel
theorem dX3_sticks_17 : decode cX3_sticks 17 = .ok (.istore_n 3, 1) := by decide +kernel
theorem dX3_sticks_18 : decode cX3_sticks 18 = .ok (.iconst 0, 1) := by decide +kernel
theorem dX3_sticks_19 : decode cX3_sticks 19 = .ok (.istore 4, 2) := by decide +kernel
theorem dX3_sticks_21 : decode cX3_sticks 21 = .ok (.iload 4, 2) := by decide +kernel
theorem dX3_sticks_23 : decode cX3_sticks 23 = .ok (.bipush 12, 2) := by decide +kernel
theorem dX3_sticks_25 : decode cX3_sticks 25 = .ok (.if_icmp .ge 30, 3) := by decide +kernel
theorem dX3_sticks_28 : decode cX3_sticks 28 = .ok (.iload_n 3, 1) := by decide +kernel
theorem dX3_sticks_29 : decode cX3_sticks 29 = .ok (.aload_n 0, 1) := by decide +kernel
theorem dX3_sticks_30 : decode cX3_sticks 30 = .ok (.iload 4, 2) := by decide +kernel
theorem dX3_sticks_32 : decode cX3_sticks 32 = .ok (.iload_n 1, 1) := by decide +kernel
theorem dX3_sticks_33 : decode cX3_sticks 33 = .ok (.invokevirtual 170, 3) := by decide +kernel
theorem dX3_sticks_36 : decode cX3_sticks 36 = .ok (.ifCond .eq 10, 3) := by decide +kernel
theorem dX3_sticks_39 : decode cX3_sticks 39 = .ok (.iconst 1, 1) := by decide +kernel
theorem dX3_sticks_40 : decode cX3_sticks 40 = .ok (.iload 4, 2) := by decide +kernel
theorem dX3_sticks_42 : decode cX3_sticks 42 = .ok (.ishl, 1) := by decide +kernel
theorem dX3_sticks_43 : decode cX3_sticks 43 = .ok (.goto 4, 3) := by decide +kernel
theorem dX3_sticks_46 : decode cX3_sticks 46 = .ok (.iconst 0, 1) := by decide +kernel
theorem dX3_sticks_47 : decode cX3_sticks 47 = .ok (.ior, 1) := by decide +kernel
theorem dX3_sticks_48 : decode cX3_sticks 48 = .ok (.istore_n 3, 1) := by decide +kernel
theorem dX3_sticks_49 : decode cX3_sticks 49 = .ok (.iinc 4 1, 3) := by decide +kernel
theorem dX3_sticks_52 : decode cX3_sticks 52 = .ok (.goto (-31), 3) := by decide +kernel
theorem dX3_sticks_55 : decode cX3_sticks 55 = .ok (.iload_n 3, 1) := by decide +kernel
theorem dX3_sticks_56 : decode cX3_sticks 56 = .ok (.ireturn, 1) := by decide +kernel
set_option maxRecDepth 20000 in
theorem ggX3_falls_X3_wrongSize : GoodIn wsX3_falls wsX3_wrongSize := goodIn_r _ [5, 6, 7, 8, 4, 9, 10, 11, 32, 33, 34, 35, 36, 37, 38, 39, 40, 41, 42, 43, 44, 45, 46, 47] (by decide +kernel) (by decide +kernel)
set_option maxRecDepth 20000 in
theorem gX3_falls_X3_wrongSize : GoodIn wsX3_falls (wsV RX3 167 RX3 yX3_wrongSize wsX3_wrongSize) := goodIn_app (goodIn_of _ (by decide +kernel)) ggX3_falls_X3_wrongSize
set_option maxRecDepth 20000 in
theorem ggX3_falls_X3_no : GoodIn wsX3_falls wsX3_no := goodIn_r _ [15, 16, 32, 33, 34, 35, 36, 37, 38, 39, 40, 41, 42, 43, 44, 45, 46, 47] (by decide +kernel) (by decide +kernel)
set_option maxRecDepth 20000 in
theorem gX3_falls_X3_no : GoodIn wsX3_falls (wsV RX3 42 RX3 yX3_no wsX3_no) := goodIn_app (goodIn_of _ (by decide +kernel)) ggX3_falls_X3_no
set_option maxRecDepth 20000 in
theorem ggX3_falls_X3_fallsIn : GoodIn wsX3_falls wsX3_fallsIn := goodIn_r _ [20, 11, 21, 22, 23, 24, 4, 25, 26, 27, 28, 29, 30, 31, 32, 33, 34, 35, 36, 37, 38, 39, 40, 41, 42, 43, 44, 45, 46, 47] (by decide +kernel) (by decide +kernel)
set_option maxRecDepth 20000 in
theorem gX3_falls_X3_fallsIn : GoodIn wsX3_falls (wsV RX3 173 RX3 yX3_fallsIn wsX3_fallsIn) := goodIn_app (goodIn_of _ (by decide +kernel)) ggX3_falls_X3_fallsIn
theorem dX3_falls_0 : decode cX3_falls 0 = .ok (.aload_n 0, 1) := by decide +kernel
theorem dX3_falls_1 : decode cX3_falls 1 = .ok (.iload_n 1, 1) := by decide +kernel
theorem dX3_falls_2 : decode cX3_falls 2 = .ok (.invokevirtual 167, 3) := by decide +kernel
theorem dX3_falls_5 : decode cX3_falls 5 = .ok (.istore_n 2, 1) := by decide +kernel
theorem dX3_falls_6 : decode cX3_falls 6 = .ok (.iload_n 2, 1) := by decide +kernel
theorem dX3_falls_7 : decode cX3_falls 7 = .ok (.ifCond .eq 9, 3) := by decide +kernel
theorem dX3_falls_10 : decode cX3_falls 10 = .ok (.aload_n 0, 1) := by decide +kernel
theorem dX3_falls_11 : decode cX3_falls 11 = .ok (.iload_n 2, 1) := by decide +kernel
theorem dX3_falls_12 : decode cX3_falls 12 = .ok (.invokevirtual 42, 3) := by decide +kernel
theorem dX3_falls_15 : decode cX3_falls 15 = .ok (.ireturn, 1) := by decide +kernel
theorem dX3_falls_16 : decode cX3_falls 16 = .ok (.iconst 0, 1) := by decide +kernel
theorem dX3_falls_17 : decode cX3_falls 17 = .ok (.istore_n 3, 1) := by decide +kernel
theorem dX3_falls_18 : decode cX3_falls 18 = .ok (.iconst 0, 1) := by decide +kernel
theorem dX3_falls_19 : decode cX3_falls 19 = .ok (.istore 4, 2) := by decide +kernel
theorem dX3_falls_21 : decode cX3_falls 21 = .ok (.iload 4, 2) := by decide +kernel
theorem dX3_falls_23 : decode cX3_falls 23 = .ok (.bipush 12, 2) := by decide +kernel
theorem dX3_falls_25 : decode cX3_falls 25 = .ok (.if_icmp .ge 30, 3) := by decide +kernel
theorem dX3_falls_28 : decode cX3_falls 28 = .ok (.iload_n 3, 1) := by decide +kernel
theorem dX3_falls_29 : decode cX3_falls 29 = .ok (.aload_n 0, 1) := by decide +kernel
theorem dX3_falls_30 : decode cX3_falls 30 = .ok (.iload 4, 2) := by decide +kernel
theorem dX3_falls_32 : decode cX3_falls 32 = .ok (.iload_n 1, 1) := by decide +kernel
theorem dX3_falls_33 : decode cX3_falls 33 = .ok (.invokevirtual 173, 3) := by decide +kernel
theorem dX3_falls_36 : decode cX3_falls 36 = .ok (.ifCond .eq 10, 3) := by decide +kernel
theorem dX3_falls_39 : decode cX3_falls 39 = .ok (.iconst 1, 1) := by decide +kernel
theorem dX3_falls_40 : decode cX3_falls 40 = .ok (.iload 4, 2) := by decide +kernel
theorem dX3_falls_42 : decode cX3_falls 42 = .ok (.ishl, 1) := by decide +kernel
theorem dX3_falls_43 : decode cX3_falls 43 = .ok (.goto 4, 3) := by decide +kernel
theorem dX3_falls_46 : decode cX3_falls 46 = .ok (.iconst 0, 1) := by decide +kernel
theorem dX3_falls_47 : decode cX3_falls 47 = .ok (.ior, 1) := by decide +kernel
theorem dX3_falls_48 : decode cX3_falls 48 = .ok (.istore_n 3, 1) := by decide +kernel
theorem dX3_falls_49 : decode cX3_falls 49 = .ok (.iinc 4 1, 3) := by decide +kernel
theorem dX3_falls_52 : decode cX3_falls 52 = .ok (.goto (-31), 3) := by decide +kernel
theorem dX3_falls_55 : decode cX3_falls 55 = .ok (.iload_n 3, 1) := by decide +kernel
theorem dX3_falls_56 : decode cX3_falls 56 = .ok (.ireturn, 1) := by decide +kernel
set_option maxRecDepth 20000 in
theorem ggX3_finds_X3_sticksIn : GoodIn wsX3_finds wsX3_sticksIn := goodIn_r _ [8, 9, 10, 11, 12, 13, 7, 14, 15, 16, 17, 18, 19, 20, 25, 26, 27, 28, 29, 30, 31, 32, 33, 34, 35, 36, 37, 38, 39, 40] (by decide +kernel) (by decide +kernel)
set_option maxRecDepth 20000 in
theorem gX3_finds_X3_sticksIn : GoodIn wsX3_finds (wsV RX3 170 RX3 yX3_sticksIn wsX3_sticksIn) := goodIn_app (goodIn_of _ (by decide +kernel)) ggX3_finds_X3_sticksIn
set_option maxRecDepth 20000 in
theorem ggX3_finds_X3_fallsIn : GoodIn wsX3_finds wsX3_fallsIn := goodIn_r _ [24, 9, 10, 11, 12, 13, 7, 14, 15, 16, 17, 18, 19, 20, 25, 26, 27, 28, 29, 30, 31, 32, 33, 34, 35, 36, 37, 38, 39, 40] (by decide +kernel) (by decide +kernel)
set_option maxRecDepth 20000 in
theorem gX3_finds_X3_fallsIn : GoodIn wsX3_finds (wsV RX3 173 RX3 yX3_fallsIn wsX3_fallsIn) := goodIn_app (goodIn_of _ (by decide +kernel)) ggX3_finds_X3_fallsIn
theorem dX3_finds_0 : decode cX3_finds 0 = .ok (.aload_n 0, 1) := by decide +kernel
theorem dX3_finds_1 : decode cX3_finds 1 = .ok (.bipush 100, 2) := by decide +kernel
theorem dX3_finds_3 : decode cX3_finds 3 = .ok (.putfield 176, 3) := by decide +kernel
theorem dX3_finds_6 : decode cX3_finds 6 = .ok (.aload_n 0, 1) := by decide +kernel
theorem dX3_finds_7 : decode cX3_finds 7 = .ok (.ldc 41, 2) := by decide +kernel
theorem dX3_finds_9 : decode cX3_finds 9 = .ok (.putfield 179, 3) := by decide +kernel
theorem dX3_finds_12 : decode cX3_finds 12 = .ok (.bipush 100, 2) := by decide +kernel
theorem dX3_finds_14 : decode cX3_finds 14 = .ok (.istore 4, 2) := by decide +kernel
theorem dX3_finds_16 : decode cX3_finds 16 = .ok (.iload 4, 2) := by decide +kernel
theorem dX3_finds_18 : decode cX3_finds 18 = .ok (.sipush 250, 3) := by decide +kernel
theorem dX3_finds_21 : decode cX3_finds 21 = .ok (.if_icmp .gt 100, 3) := by decide +kernel
theorem dX3_finds_24 : decode cX3_finds 24 = .ok (.iconst 0, 1) := by decide +kernel
theorem dX3_finds_25 : decode cX3_finds 25 = .ok (.istore 5, 2) := by decide +kernel
theorem dX3_finds_27 : decode cX3_finds 27 = .ok (.iconst 0, 1) := by decide +kernel
theorem dX3_finds_28 : decode cX3_finds 28 = .ok (.istore 6, 2) := by decide +kernel
theorem dX3_finds_30 : decode cX3_finds 30 = .ok (.iload 6, 2) := by decide +kernel
theorem dX3_finds_32 : decode cX3_finds 32 = .ok (.bipush 12, 2) := by decide +kernel
theorem dX3_finds_34 : decode cX3_finds 34 = .ok (.if_icmp .ge 57, 3) := by decide +kernel
theorem dX3_finds_37 : decode cX3_finds 37 = .ok (.iload_n 1, 1) := by decide +kernel
theorem dX3_finds_38 : decode cX3_finds 38 = .ok (.iload 6, 2) := by decide +kernel
theorem dX3_finds_40 : decode cX3_finds 40 = .ok (.ishr, 1) := by decide +kernel
theorem dX3_finds_41 : decode cX3_finds 41 = .ok (.iconst 1, 1) := by decide +kernel
theorem dX3_finds_42 : decode cX3_finds 42 = .ok (.iand, 1) := by decide +kernel
theorem dX3_finds_43 : decode cX3_finds 43 = .ok (.iconst 1, 1) := by decide +kernel
theorem dX3_finds_44 : decode cX3_finds 44 = .ok (.if_icmp .ne 41, 3) := by decide +kernel
theorem dX3_finds_47 : decode cX3_finds 47 = .ok (.iload 5, 2) := by decide +kernel
theorem dX3_finds_49 : decode cX3_finds 49 = .ok (.aload_n 0, 1) := by decide +kernel
theorem dX3_finds_50 : decode cX3_finds 50 = .ok (.iload 6, 2) := by decide +kernel
theorem dX3_finds_52 : decode cX3_finds 52 = .ok (.iload 4, 2) := by decide +kernel
theorem dX3_finds_54 : decode cX3_finds 54 = .ok (.invokevirtual 170, 3) := by decide +kernel
theorem dX3_finds_57 : decode cX3_finds 57 = .ok (.ifCond .eq 7, 3) := by decide +kernel
theorem dX3_finds_60 : decode cX3_finds 60 = .ok (.iload_n 2, 1) := by decide +kernel
theorem dX3_finds_61 : decode cX3_finds 61 = .ok (.goto 4, 3) := by decide +kernel
theorem dX3_finds_64 : decode cX3_finds 64 = .ok (.iconst 0, 1) := by decide +kernel
theorem dX3_finds_65 : decode cX3_finds 65 = .ok (.aload_n 0, 1) := by decide +kernel
theorem dX3_finds_66 : decode cX3_finds 66 = .ok (.iload 6, 2) := by decide +kernel
theorem dX3_finds_68 : decode cX3_finds 68 = .ok (.iload 4, 2) := by decide +kernel
theorem dX3_finds_70 : decode cX3_finds 70 = .ok (.invokevirtual 173, 3) := by decide +kernel
theorem dX3_finds_73 : decode cX3_finds 73 = .ok (.ifCond .eq 7, 3) := by decide +kernel
theorem dX3_finds_76 : decode cX3_finds 76 = .ok (.iload_n 3, 1) := by decide +kernel
theorem dX3_finds_77 : decode cX3_finds 77 = .ok (.goto 4, 3) := by decide +kernel
theorem dX3_finds_80 : decode cX3_finds 80 = .ok (.iconst 0, 1) := by decide +kernel
theorem dX3_finds_81 : decode cX3_finds 81 = .ok (.iadd, 1) := by decide +kernel
theorem dX3_finds_82 : decode cX3_finds 82 = .ok (.iadd, 1) := by decide +kernel
theorem dX3_finds_83 : decode cX3_finds 83 = .ok (.istore 5, 2) := by decide +kernel
theorem dX3_finds_85 : decode cX3_finds 85 = .ok (.iinc 6 1, 3) := by decide +kernel
theorem dX3_finds_88 : decode cX3_finds 88 = .ok (.goto (-58), 3) := by decide +kernel
theorem dX3_finds_91 : decode cX3_finds 91 = .ok (.iload 5, 2) := by decide +kernel
theorem dX3_finds_93 : decode cX3_finds 93 = .ok (.aload_n 0, 1) := by decide +kernel
theorem dX3_finds_94 : decode cX3_finds 94 = .ok (.getfield 179, 3) := by decide +kernel
theorem dX3_finds_97 : decode cX3_finds 97 = .ok (.if_icmp .lt 6, 3) := by decide +kernel
theorem dX3_finds_100 : decode cX3_finds 100 = .ok (.goto 15, 3) := by decide +kernel
theorem dX3_finds_103 : decode cX3_finds 103 = .ok (.aload_n 0, 1) := by decide +kernel
theorem dX3_finds_104 : decode cX3_finds 104 = .ok (.iload 4, 2) := by decide +kernel
theorem dX3_finds_106 : decode cX3_finds 106 = .ok (.putfield 176, 3) := by decide +kernel
theorem dX3_finds_109 : decode cX3_finds 109 = .ok (.aload_n 0, 1) := by decide +kernel
theorem dX3_finds_110 : decode cX3_finds 110 = .ok (.iload 5, 2) := by decide +kernel
theorem dX3_finds_112 : decode cX3_finds 112 = .ok (.putfield 179, 3) := by decide +kernel
theorem dX3_finds_115 : decode cX3_finds 115 = .ok (.iinc 4 1, 3) := by decide +kernel
theorem dX3_finds_118 : decode cX3_finds 118 = .ok (.goto (-102), 3) := by decide +kernel
theorem dX3_finds_121 : decode cX3_finds 121 = .ok (.return_, 1) := by decide +kernel
set_option maxRecDepth 20000 in
theorem ggX3_year_X3_no : GoodIn wsX3_year wsX3_no := goodIn_r _ [7, 8, 42, 43, 44, 45, 46, 47, 48, 49, 50, 51, 52, 53, 54, 55, 56, 57] (by decide +kernel) (by decide +kernel)
set_option maxRecDepth 20000 in
theorem gX3_year_X3_no : GoodIn wsX3_year (wsV RX3 42 RX3 yX3_no wsX3_no) := goodIn_app (goodIn_of _ (by decide +kernel)) ggX3_year_X3_no
set_option maxRecDepth 20000 in
theorem ggX3_year_X3_isIn : GoodIn wsX3_year wsX3_isIn := goodIn_r _ [11] (by decide +kernel) (by decide +kernel)
set_option maxRecDepth 20000 in
theorem gX3_year_X3_isIn : GoodIn wsX3_year (va_wsS RX3 99 yX3_isIn wsX3_isIn) := goodIn_app (goodIn_of _ (by decide +kernel)) ggX3_year_X3_isIn
set_option maxRecDepth 20000 in
theorem ggX3_year_X3_areHeats : GoodIn wsX3_year wsX3_areHeats := goodIn_r _ [15, 16, 17, 42, 43, 44, 45, 46, 47, 48, 49, 50, 51, 52, 53, 54, 55, 56, 57] (by decide +kernel) (by decide +kernel)
set_option maxRecDepth 20000 in
theorem gX3_year_X3_areHeats : GoodIn wsX3_year (wsV RX3 164 RX3 yX3_areHeats wsX3_areHeats) := goodIn_app (goodIn_of _ (by decide +kernel)) ggX3_year_X3_areHeats
set_option maxRecDepth 20000 in
theorem ggX3_year_X3_finds : GoodIn wsX3_year wsX3_finds := goodIn_r _ [21, 1, 22, 2, 23, 24, 25, 6, 26, 17, 27, 28, 29, 30, 31, 32, 33, 34, 35, 36, 37, 38, 39, 40, 41, 42, 43, 44, 45, 46, 47, 48, 49, 50, 51, 52, 53, 54, 55, 56, 57] (by decide +kernel) (by decide +kernel)
set_option maxRecDepth 20000 in
theorem gX3_year_X3_finds : GoodIn wsX3_year (wsV RX3 182 RX3 yX3_finds wsX3_finds) := goodIn_app (goodIn_of _ (by decide +kernel)) ggX3_year_X3_finds
theorem dX3_year_0 : decode cX3_year 0 = .ok (.iload_n 1, 1) := by decide +kernel
theorem dX3_year_1 : decode cX3_year 1 = .ok (.ifCond .lt 7, 3) := by decide +kernel
theorem dX3_year_4 : decode cX3_year 4 = .ok (.iload_n 2, 1) := by decide +kernel
theorem dX3_year_5 : decode cX3_year 5 = .ok (.ifCond .ge 10, 3) := by decide +kernel
theorem dX3_year_8 : decode cX3_year 8 = .ok (.aload_n 0, 1) := by decide +kernel
theorem dX3_year_9 : decode cX3_year 9 = .ok (.bipush (-4), 2) := by decide +kernel
theorem dX3_year_11 : decode cX3_year 11 = .ok (.invokevirtual 42, 3) := by decide +kernel
theorem dX3_year_14 : decode cX3_year 14 = .ok (.ireturn, 1) := by decide +kernel
theorem dX3_year_15 : decode cX3_year 15 = .ok (.iload_n 1, 1) := by decide +kernel
theorem dX3_year_16 : decode cX3_year 16 = .ok (.bipush 99, 2) := by decide +kernel
theorem dX3_year_18 : decode cX3_year 18 = .ok (.if_icmp .gt 9, 3) := by decide +kernel
theorem dX3_year_21 : decode cX3_year 21 = .ok (.iload_n 2, 1) := by decide +kernel
theorem dX3_year_22 : decode cX3_year 22 = .ok (.bipush 99, 2) := by decide +kernel
theorem dX3_year_24 : decode cX3_year 24 = .ok (.if_icmp .le 10, 3) := by decide +kernel
theorem dX3_year_27 : decode cX3_year 27 = .ok (.aload_n 0, 1) := by decide +kernel
theorem dX3_year_28 : decode cX3_year 28 = .ok (.bipush (-6), 2) := by decide +kernel
theorem dX3_year_30 : decode cX3_year 30 = .ok (.invokevirtual 42, 3) := by decide +kernel
theorem dX3_year_33 : decode cX3_year 33 = .ok (.ireturn, 1) := by decide +kernel
theorem dX3_year_34 : decode cX3_year 34 = .ok (.iload_n 3, 1) := by decide +kernel
theorem dX3_year_35 : decode cX3_year 35 = .ok (.iconst 0, 1) := by decide +kernel
theorem dX3_year_36 : decode cX3_year 36 = .ok (.iconst 1, 1) := by decide +kernel
theorem dX3_year_37 : decode cX3_year 37 = .ok (.invokestatic 99, 3) := by decide +kernel
theorem dX3_year_40 : decode cX3_year 40 = .ok (.ifCond .ne 10, 3) := by decide +kernel
theorem dX3_year_43 : decode cX3_year 43 = .ok (.aload_n 0, 1) := by decide +kernel
theorem dX3_year_44 : decode cX3_year 44 = .ok (.bipush (-2), 2) := by decide +kernel
theorem dX3_year_46 : decode cX3_year 46 = .ok (.invokevirtual 42, 3) := by decide +kernel
theorem dX3_year_49 : decode cX3_year 49 = .ok (.ireturn, 1) := by decide +kernel
theorem dX3_year_50 : decode cX3_year 50 = .ok (.aload_n 0, 1) := by decide +kernel
theorem dX3_year_51 : decode cX3_year 51 = .ok (.invokevirtual 164, 3) := by decide +kernel
theorem dX3_year_54 : decode cX3_year 54 = .ok (.ifCond .ne 10, 3) := by decide +kernel
theorem dX3_year_57 : decode cX3_year 57 = .ok (.aload_n 0, 1) := by decide +kernel
theorem dX3_year_58 : decode cX3_year 58 = .ok (.bipush (-3), 2) := by decide +kernel
theorem dX3_year_60 : decode cX3_year 60 = .ok (.invokevirtual 42, 3) := by decide +kernel
theorem dX3_year_63 : decode cX3_year 63 = .ok (.ireturn, 1) := by decide +kernel
theorem dX3_year_64 : decode cX3_year 64 = .ok (.aload_n 0, 1) := by decide +kernel
theorem dX3_year_65 : decode cX3_year 65 = .ok (.sipush 4095, 3) := by decide +kernel
theorem dX3_year_68 : decode cX3_year 68 = .ok (.iload_n 1, 1) := by decide +kernel
theorem dX3_year_69 : decode cX3_year 69 = .ok (.iload_n 2, 1) := by decide +kernel
theorem dX3_year_70 : decode cX3_year 70 = .ok (.invokevirtual 182, 3) := by decide +kernel
theorem dX3_year_73 : decode cX3_year 73 = .ok (.iload_n 3, 1) := by decide +kernel
theorem dX3_year_74 : decode cX3_year 74 = .ok (.ifCond .ne 10, 3) := by decide +kernel
theorem dX3_year_77 : decode cX3_year 77 = .ok (.aload_n 0, 1) := by decide +kernel
theorem dX3_year_78 : decode cX3_year 78 = .ok (.getfield 176, 3) := by decide +kernel
theorem dX3_year_81 : decode cX3_year 81 = .ok (.goto 7, 3) := by decide +kernel
theorem dX3_year_84 : decode cX3_year 84 = .ok (.aload_n 0, 1) := by decide +kernel
theorem dX3_year_85 : decode cX3_year 85 = .ok (.getfield 179, 3) := by decide +kernel
theorem dX3_year_88 : decode cX3_year 88 = .ok (.ireturn, 1) := by decide +kernel
theorem dX3_wrongMonths_0 : decode cX3_wrongMonths 0 = .ok (.iload_n 0, 1) := by decide +kernel
theorem dX3_wrongMonths_1 : decode cX3_wrongMonths 1 = .ok (.ifCond .lt 15, 3) := by decide +kernel
theorem dX3_wrongMonths_4 : decode cX3_wrongMonths 4 = .ok (.iload_n 1, 1) := by decide +kernel
theorem dX3_wrongMonths_5 : decode cX3_wrongMonths 5 = .ok (.ifCond .lt 11, 3) := by decide +kernel
theorem dX3_wrongMonths_8 : decode cX3_wrongMonths 8 = .ok (.iload_n 2, 1) := by decide +kernel
theorem dX3_wrongMonths_9 : decode cX3_wrongMonths 9 = .ok (.ifCond .lt 7, 3) := by decide +kernel
theorem dX3_wrongMonths_12 : decode cX3_wrongMonths 12 = .ok (.iload_n 3, 1) := by decide +kernel
theorem dX3_wrongMonths_13 : decode cX3_wrongMonths 13 = .ok (.ifCond .ge 6, 3) := by decide +kernel
theorem dX3_wrongMonths_16 : decode cX3_wrongMonths 16 = .ok (.bipush (-4), 2) := by decide +kernel
theorem dX3_wrongMonths_18 : decode cX3_wrongMonths 18 = .ok (.ireturn, 1) := by decide +kernel
theorem dX3_wrongMonths_19 : decode cX3_wrongMonths 19 = .ok (.iload_n 0, 1) := by decide +kernel
theorem dX3_wrongMonths_20 : decode cX3_wrongMonths 20 = .ok (.bipush 12, 2) := by decide +kernel
theorem dX3_wrongMonths_22 : decode cX3_wrongMonths 22 = .ok (.if_icmp .gt 26, 3) := by decide +kernel
theorem dX3_wrongMonths_25 : decode cX3_wrongMonths 25 = .ok (.iload_n 1, 1) := by decide +kernel
theorem dX3_wrongMonths_26 : decode cX3_wrongMonths 26 = .ok (.bipush 12, 2) := by decide +kernel
theorem dX3_wrongMonths_28 : decode cX3_wrongMonths 28 = .ok (.if_icmp .gt 20, 3) := by decide +kernel
theorem dX3_wrongMonths_31 : decode cX3_wrongMonths 31 = .ok (.iload_n 0, 1) := by decide +kernel
theorem dX3_wrongMonths_32 : decode cX3_wrongMonths 32 = .ok (.iload_n 1, 1) := by decide +kernel
theorem dX3_wrongMonths_33 : decode cX3_wrongMonths 33 = .ok (.if_icmp .gt 15, 3) := by decide +kernel
theorem dX3_wrongMonths_36 : decode cX3_wrongMonths 36 = .ok (.iload_n 2, 1) := by decide +kernel
theorem dX3_wrongMonths_37 : decode cX3_wrongMonths 37 = .ok (.bipush 99, 2) := by decide +kernel
theorem dX3_wrongMonths_39 : decode cX3_wrongMonths 39 = .ok (.if_icmp .gt 9, 3) := by decide +kernel
theorem dX3_wrongMonths_42 : decode cX3_wrongMonths 42 = .ok (.iload_n 3, 1) := by decide +kernel
theorem dX3_wrongMonths_43 : decode cX3_wrongMonths 43 = .ok (.bipush 99, 2) := by decide +kernel
theorem dX3_wrongMonths_45 : decode cX3_wrongMonths 45 = .ok (.if_icmp .le 8, 3) := by decide +kernel
theorem dX3_wrongMonths_48 : decode cX3_wrongMonths 48 = .ok (.bipush (-6), 2) := by decide +kernel
theorem dX3_wrongMonths_50 : decode cX3_wrongMonths 50 = .ok (.goto 4, 3) := by decide +kernel
theorem dX3_wrongMonths_53 : decode cX3_wrongMonths 53 = .ok (.iconst 0, 1) := by decide +kernel
theorem dX3_wrongMonths_54 : decode cX3_wrongMonths 54 = .ok (.ireturn, 1) := by decide +kernel
theorem dX3_monthsOf_0 : decode cX3_monthsOf 0 = .ok (.iconst 1, 1) := by decide +kernel
theorem dX3_monthsOf_1 : decode cX3_monthsOf 1 = .ok (.iload_n 1, 1) := by decide +kernel
theorem dX3_monthsOf_2 : decode cX3_monthsOf 2 = .ok (.ishl, 1) := by decide +kernel
theorem dX3_monthsOf_3 : decode cX3_monthsOf 3 = .ok (.iconst 1, 1) := by decide +kernel
theorem dX3_monthsOf_4 : decode cX3_monthsOf 4 = .ok (.iload_n 0, 1) := by decide +kernel
theorem dX3_monthsOf_5 : decode cX3_monthsOf 5 = .ok (.ishl, 1) := by decide +kernel
theorem dX3_monthsOf_6 : decode cX3_monthsOf 6 = .ok (.isub, 1) := by decide +kernel
theorem dX3_monthsOf_7 : decode cX3_monthsOf 7 = .ok (.ireturn, 1) := by decide +kernel
set_option maxRecDepth 20000 in
theorem ggX3_two_X3_wrongMonths : GoodIn wsX3_two wsX3_wrongMonths := goodIn_r _ [6] (by decide +kernel) (by decide +kernel)
set_option maxRecDepth 20000 in
theorem gX3_two_X3_wrongMonths : GoodIn wsX3_two (va_wsS RX3 186 yX3_wrongMonths wsX3_wrongMonths) := goodIn_app (goodIn_of _ (by decide +kernel)) ggX3_two_X3_wrongMonths
set_option maxRecDepth 20000 in
theorem ggX3_two_X3_isIn : GoodIn wsX3_two wsX3_isIn := goodIn_r _ [9] (by decide +kernel) (by decide +kernel)
set_option maxRecDepth 20000 in
theorem gX3_two_X3_isIn : GoodIn wsX3_two (va_wsS RX3 99 yX3_isIn wsX3_isIn) := goodIn_app (goodIn_of _ (by decide +kernel)) ggX3_two_X3_isIn
set_option maxRecDepth 20000 in
theorem ggX3_two_X3_areHeats : GoodIn wsX3_two wsX3_areHeats := goodIn_r _ [13, 14, 15, 48, 49, 50, 51, 52, 53, 54, 55, 56, 57, 58, 59, 60, 61, 62, 63] (by decide +kernel) (by decide +kernel)
set_option maxRecDepth 20000 in
theorem gX3_two_X3_areHeats : GoodIn wsX3_two (wsV RX3 164 RX3 yX3_areHeats wsX3_areHeats) := goodIn_app (goodIn_of _ (by decide +kernel)) ggX3_two_X3_areHeats
set_option maxRecDepth 20000 in
theorem ggX3_two_X3_no : GoodIn wsX3_two wsX3_no := goodIn_r _ [19, 20, 48, 49, 50, 51, 52, 53, 54, 55, 56, 57, 58, 59, 60, 61, 62, 63] (by decide +kernel) (by decide +kernel)
set_option maxRecDepth 20000 in
theorem gX3_two_X3_no : GoodIn wsX3_two (wsV RX3 42 RX3 yX3_no wsX3_no) := goodIn_app (goodIn_of _ (by decide +kernel)) ggX3_two_X3_no
set_option maxRecDepth 20000 in
theorem ggX3_two_X3_monthsOf : GoodIn wsX3_two wsX3_monthsOf := goodIn_r _ [23] (by decide +kernel) (by decide +kernel)
set_option maxRecDepth 20000 in
theorem gX3_two_X3_monthsOf : GoodIn wsX3_two (va_wsS RX3 189 yX3_monthsOf wsX3_monthsOf) := goodIn_app (goodIn_of _ (by decide +kernel)) ggX3_two_X3_monthsOf
set_option maxRecDepth 20000 in
theorem ggX3_two_X3_finds : GoodIn wsX3_two wsX3_finds := goodIn_r _ [27, 1, 28, 2, 29, 30, 31, 5, 32, 15, 33, 34, 35, 36, 37, 38, 39, 40, 41, 42, 43, 44, 45, 46, 47, 48, 49, 50, 51, 52, 53, 54, 55, 56, 57, 58, 59, 60, 61, 62, 63] (by decide +kernel) (by decide +kernel)
set_option maxRecDepth 20000 in
theorem gX3_two_X3_finds : GoodIn wsX3_two (wsV RX3 182 RX3 yX3_finds wsX3_finds) := goodIn_app (goodIn_of _ (by decide +kernel)) ggX3_two_X3_finds
theorem dX3_two_0 : decode cX3_two 0 = .ok (.iload_n 1, 1) := by decide +kernel
theorem dX3_two_1 : decode cX3_two 1 = .ok (.iload_n 2, 1) := by decide +kernel
theorem dX3_two_2 : decode cX3_two 2 = .ok (.iload_n 3, 1) := by decide +kernel
theorem dX3_two_3 : decode cX3_two 3 = .ok (.iload 4, 2) := by decide +kernel
theorem dX3_two_5 : decode cX3_two 5 = .ok (.invokestatic 186, 3) := by decide +kernel
theorem dX3_two_8 : decode cX3_two 8 = .ok (.istore 6, 2) := by decide +kernel
theorem dX3_two_10 : decode cX3_two 10 = .ok (.iload 6, 2) := by decide +kernel
theorem dX3_two_12 : decode cX3_two 12 = .ok (.ifCond .ne 17, 3) := by decide +kernel
theorem dX3_two_15 : decode cX3_two 15 = .ok (.iload 5, 2) := by decide +kernel
theorem dX3_two_17 : decode cX3_two 17 = .ok (.iconst 0, 1) := by decide +kernel
theorem dX3_two_18 : decode cX3_two 18 = .ok (.iconst 2, 1) := by decide +kernel
theorem dX3_two_19 : decode cX3_two 19 = .ok (.invokestatic 99, 3) := by decide +kernel
theorem dX3_two_22 : decode cX3_two 22 = .ok (.ifCond .ne 7, 3) := by decide +kernel
theorem dX3_two_25 : decode cX3_two 25 = .ok (.bipush (-2), 2) := by decide +kernel
theorem dX3_two_27 : decode cX3_two 27 = .ok (.istore 6, 2) := by decide +kernel
theorem dX3_two_29 : decode cX3_two 29 = .ok (.iload 6, 2) := by decide +kernel
theorem dX3_two_31 : decode cX3_two 31 = .ok (.ifCond .ne 14, 3) := by decide +kernel
theorem dX3_two_34 : decode cX3_two 34 = .ok (.aload_n 0, 1) := by decide +kernel
theorem dX3_two_35 : decode cX3_two 35 = .ok (.invokevirtual 164, 3) := by decide +kernel
theorem dX3_two_38 : decode cX3_two 38 = .ok (.ifCond .ne 7, 3) := by decide +kernel
theorem dX3_two_41 : decode cX3_two 41 = .ok (.bipush (-3), 2) := by decide +kernel
theorem dX3_two_43 : decode cX3_two 43 = .ok (.istore 6, 2) := by decide +kernel
theorem dX3_two_45 : decode cX3_two 45 = .ok (.iload 6, 2) := by decide +kernel
theorem dX3_two_47 : decode cX3_two 47 = .ok (.ifCond .eq 10, 3) := by decide +kernel
theorem dX3_two_50 : decode cX3_two 50 = .ok (.aload_n 0, 1) := by decide +kernel
theorem dX3_two_51 : decode cX3_two 51 = .ok (.iload 6, 2) := by decide +kernel
theorem dX3_two_53 : decode cX3_two 53 = .ok (.invokevirtual 42, 3) := by decide +kernel
theorem dX3_two_56 : decode cX3_two 56 = .ok (.ireturn, 1) := by decide +kernel
theorem dX3_two_57 : decode cX3_two 57 = .ok (.aload_n 0, 1) := by decide +kernel
theorem dX3_two_58 : decode cX3_two 58 = .ok (.iload_n 1, 1) := by decide +kernel
theorem dX3_two_59 : decode cX3_two 59 = .ok (.iload_n 2, 1) := by decide +kernel
theorem dX3_two_60 : decode cX3_two 60 = .ok (.invokestatic 189, 3) := by decide +kernel
theorem dX3_two_63 : decode cX3_two 63 = .ok (.iload_n 3, 1) := by decide +kernel
theorem dX3_two_64 : decode cX3_two 64 = .ok (.iload 4, 2) := by decide +kernel
theorem dX3_two_66 : decode cX3_two 66 = .ok (.invokevirtual 182, 3) := by decide +kernel
theorem dX3_two_69 : decode cX3_two 69 = .ok (.iload 5, 2) := by decide +kernel
theorem dX3_two_71 : decode cX3_two 71 = .ok (.ifCond .ne 8, 3) := by decide +kernel
theorem dX3_two_74 : decode cX3_two 74 = .ok (.aload_n 0, 1) := by decide +kernel
theorem dX3_two_75 : decode cX3_two 75 = .ok (.getfield 176, 3) := by decide +kernel
theorem dX3_two_78 : decode cX3_two 78 = .ok (.ireturn, 1) := by decide +kernel
theorem dX3_two_79 : decode cX3_two 79 = .ok (.aload_n 0, 1) := by decide +kernel
theorem dX3_two_80 : decode cX3_two 80 = .ok (.getfield 179, 3) := by decide +kernel
theorem dX3_two_83 : decode cX3_two 83 = .ok (.istore 7, 2) := by decide +kernel
theorem dX3_two_85 : decode cX3_two 85 = .ok (.aload_n 0, 1) := by decide +kernel
theorem dX3_two_86 : decode cX3_two 86 = .ok (.sipush 4095, 3) := by decide +kernel
theorem dX3_two_89 : decode cX3_two 89 = .ok (.iload_n 1, 1) := by decide +kernel
theorem dX3_two_90 : decode cX3_two 90 = .ok (.iload_n 2, 1) := by decide +kernel
theorem dX3_two_91 : decode cX3_two 91 = .ok (.invokestatic 189, 3) := by decide +kernel
theorem dX3_two_94 : decode cX3_two 94 = .ok (.iconst (-1), 1) := by decide +kernel
theorem dX3_two_95 : decode cX3_two 95 = .ok (.ixor, 1) := by decide +kernel
theorem dX3_two_96 : decode cX3_two 96 = .ok (.iand, 1) := by decide +kernel
theorem dX3_two_97 : decode cX3_two 97 = .ok (.iload_n 3, 1) := by decide +kernel
theorem dX3_two_98 : decode cX3_two 98 = .ok (.iload 4, 2) := by decide +kernel
theorem dX3_two_100 : decode cX3_two 100 = .ok (.invokevirtual 182, 3) := by decide +kernel
theorem dX3_two_103 : decode cX3_two 103 = .ok (.iload 5, 2) := by decide +kernel
theorem dX3_two_105 : decode cX3_two 105 = .ok (.iconst 1, 1) := by decide +kernel
theorem dX3_two_106 : decode cX3_two 106 = .ok (.if_icmp .ne 10, 3) := by decide +kernel
theorem dX3_two_109 : decode cX3_two 109 = .ok (.aload_n 0, 1) := by decide +kernel
theorem dX3_two_110 : decode cX3_two 110 = .ok (.getfield 176, 3) := by decide +kernel
theorem dX3_two_113 : decode cX3_two 113 = .ok (.goto 10, 3) := by decide +kernel
theorem dX3_two_116 : decode cX3_two 116 = .ok (.iload 7, 2) := by decide +kernel
theorem dX3_two_118 : decode cX3_two 118 = .ok (.aload_n 0, 1) := by decide +kernel
theorem dX3_two_119 : decode cX3_two 119 = .ok (.getfield 179, 3) := by decide +kernel
theorem dX3_two_122 : decode cX3_two 122 = .ok (.iadd, 1) := by decide +kernel
theorem dX3_two_123 : decode cX3_two 123 = .ok (.ireturn, 1) := by decide +kernel
set_option maxRecDepth 20000 in
theorem ggX3_worth_X3_wrongMonths : GoodIn wsX3_worth wsX3_wrongMonths := goodIn_r _ [5] (by decide +kernel) (by decide +kernel)
set_option maxRecDepth 20000 in
theorem gX3_worth_X3_wrongMonths : GoodIn wsX3_worth (va_wsS RX3 186 yX3_wrongMonths wsX3_wrongMonths) := goodIn_app (goodIn_of _ (by decide +kernel)) ggX3_worth_X3_wrongMonths
set_option maxRecDepth 20000 in
theorem ggX3_worth_X3_areHeats : GoodIn wsX3_worth wsX3_areHeats := goodIn_r _ [9, 10, 11, 49, 50, 51, 52, 53, 54, 55, 56, 57, 58, 59, 60, 61, 62, 63, 64] (by decide +kernel) (by decide +kernel)
set_option maxRecDepth 20000 in
theorem gX3_worth_X3_areHeats : GoodIn wsX3_worth (wsV RX3 164 RX3 yX3_areHeats wsX3_areHeats) := goodIn_app (goodIn_of _ (by decide +kernel)) ggX3_worth_X3_areHeats
set_option maxRecDepth 20000 in
theorem ggX3_worth_X3_far : GoodIn wsX3_worth wsX3_far := goodIn_r _ [15, 16, 17, 18, 19, 4, 20, 21, 49, 50, 51, 52, 53, 54, 55, 56, 57, 58, 59, 60, 61, 62, 63, 64] (by decide +kernel) (by decide +kernel)
set_option maxRecDepth 20000 in
theorem gX3_worth_X3_far : GoodIn wsX3_worth (wsV RX3 192 RX3 yX3_far wsX3_far) := goodIn_app (goodIn_of _ (by decide +kernel)) ggX3_worth_X3_far
set_option maxRecDepth 20000 in
theorem ggX3_worth_X3_finds : GoodIn wsX3_worth wsX3_finds := goodIn_r _ [25, 26, 16, 1, 27, 28, 29, 4, 30, 11, 31, 32, 33, 34, 35, 36, 37, 38, 39, 40, 41, 42, 43, 44, 45, 49, 50, 51, 52, 53, 54, 55, 56, 57, 58, 59, 60, 61, 62, 63, 64] (by decide +kernel) (by decide +kernel)
set_option maxRecDepth 20000 in
theorem gX3_worth_X3_finds : GoodIn wsX3_worth (wsV RX3 182 RX3 yX3_finds wsX3_finds) := goodIn_app (goodIn_of _ (by decide +kernel)) ggX3_worth_X3_finds
set_option maxRecDepth 20000 in
theorem ggX3_worth_X3_monthsOf : GoodIn wsX3_worth wsX3_monthsOf := goodIn_r _ [48] (by decide +kernel) (by decide +kernel)
set_option maxRecDepth 20000 in
theorem gX3_worth_X3_monthsOf : GoodIn wsX3_worth (va_wsS RX3 189 yX3_monthsOf wsX3_monthsOf) := goodIn_app (goodIn_of _ (by decide +kernel)) ggX3_worth_X3_monthsOf
theorem dX3_worth_0 : decode cX3_worth 0 = .ok (.iload_n 1, 1) := by decide +kernel
theorem dX3_worth_1 : decode cX3_worth 1 = .ok (.iload_n 2, 1) := by decide +kernel
theorem dX3_worth_2 : decode cX3_worth 2 = .ok (.iload_n 3, 1) := by decide +kernel
theorem dX3_worth_3 : decode cX3_worth 3 = .ok (.iload 4, 2) := by decide +kernel
theorem dX3_worth_5 : decode cX3_worth 5 = .ok (.invokestatic 186, 3) := by decide +kernel
theorem dX3_worth_8 : decode cX3_worth 8 = .ok (.istore 5, 2) := by decide +kernel
theorem dX3_worth_10 : decode cX3_worth 10 = .ok (.iload 5, 2) := by decide +kernel
theorem dX3_worth_12 : decode cX3_worth 12 = .ok (.ifCond .ne 14, 3) := by decide +kernel
theorem dX3_worth_15 : decode cX3_worth 15 = .ok (.aload_n 0, 1) := by decide +kernel
theorem dX3_worth_16 : decode cX3_worth 16 = .ok (.invokevirtual 164, 3) := by decide +kernel
theorem dX3_worth_19 : decode cX3_worth 19 = .ok (.ifCond .ne 7, 3) := by decide +kernel
theorem dX3_worth_22 : decode cX3_worth 22 = .ok (.bipush (-3), 2) := by decide +kernel
theorem dX3_worth_24 : decode cX3_worth 24 = .ok (.istore 5, 2) := by decide +kernel
theorem dX3_worth_26 : decode cX3_worth 26 = .ok (.iload 5, 2) := by decide +kernel
theorem dX3_worth_28 : decode cX3_worth 28 = .ok (.ifCond .eq 10, 3) := by decide +kernel
theorem dX3_worth_31 : decode cX3_worth 31 = .ok (.aload_n 0, 1) := by decide +kernel
theorem dX3_worth_32 : decode cX3_worth 32 = .ok (.iload 5, 2) := by decide +kernel
theorem dX3_worth_34 : decode cX3_worth 34 = .ok (.invokevirtual 192, 3) := by decide +kernel
theorem dX3_worth_37 : decode cX3_worth 37 = .ok (.ireturn, 1) := by decide +kernel
theorem dX3_worth_38 : decode cX3_worth 38 = .ok (.aload_n 0, 1) := by decide +kernel
theorem dX3_worth_39 : decode cX3_worth 39 = .ok (.sipush 4095, 3) := by decide +kernel
theorem dX3_worth_42 : decode cX3_worth 42 = .ok (.iload_n 3, 1) := by decide +kernel
theorem dX3_worth_43 : decode cX3_worth 43 = .ok (.iload 4, 2) := by decide +kernel
theorem dX3_worth_45 : decode cX3_worth 45 = .ok (.invokevirtual 182, 3) := by decide +kernel
theorem dX3_worth_48 : decode cX3_worth 48 = .ok (.aload_n 0, 1) := by decide +kernel
theorem dX3_worth_49 : decode cX3_worth 49 = .ok (.getfield 179, 3) := by decide +kernel
theorem dX3_worth_52 : decode cX3_worth 52 = .ok (.istore 6, 2) := by decide +kernel
theorem dX3_worth_54 : decode cX3_worth 54 = .ok (.aload_n 0, 1) := by decide +kernel
theorem dX3_worth_55 : decode cX3_worth 55 = .ok (.iload_n 1, 1) := by decide +kernel
theorem dX3_worth_56 : decode cX3_worth 56 = .ok (.iload_n 2, 1) := by decide +kernel
theorem dX3_worth_57 : decode cX3_worth 57 = .ok (.invokestatic 189, 3) := by decide +kernel
theorem dX3_worth_60 : decode cX3_worth 60 = .ok (.iload_n 3, 1) := by decide +kernel
theorem dX3_worth_61 : decode cX3_worth 61 = .ok (.iload 4, 2) := by decide +kernel
theorem dX3_worth_63 : decode cX3_worth 63 = .ok (.invokevirtual 182, 3) := by decide +kernel
theorem dX3_worth_66 : decode cX3_worth 66 = .ok (.aload_n 0, 1) := by decide +kernel
theorem dX3_worth_67 : decode cX3_worth 67 = .ok (.getfield 179, 3) := by decide +kernel
theorem dX3_worth_70 : decode cX3_worth 70 = .ok (.istore 7, 2) := by decide +kernel
theorem dX3_worth_72 : decode cX3_worth 72 = .ok (.aload_n 0, 1) := by decide +kernel
theorem dX3_worth_73 : decode cX3_worth 73 = .ok (.sipush 4095, 3) := by decide +kernel
theorem dX3_worth_76 : decode cX3_worth 76 = .ok (.iload_n 1, 1) := by decide +kernel
theorem dX3_worth_77 : decode cX3_worth 77 = .ok (.iload_n 2, 1) := by decide +kernel
theorem dX3_worth_78 : decode cX3_worth 78 = .ok (.invokestatic 189, 3) := by decide +kernel
theorem dX3_worth_81 : decode cX3_worth 81 = .ok (.iconst (-1), 1) := by decide +kernel
theorem dX3_worth_82 : decode cX3_worth 82 = .ok (.ixor, 1) := by decide +kernel
theorem dX3_worth_83 : decode cX3_worth 83 = .ok (.iand, 1) := by decide +kernel
theorem dX3_worth_84 : decode cX3_worth 84 = .ok (.iload_n 3, 1) := by decide +kernel
theorem dX3_worth_85 : decode cX3_worth 85 = .ok (.iload 4, 2) := by decide +kernel
theorem dX3_worth_87 : decode cX3_worth 87 = .ok (.invokevirtual 182, 3) := by decide +kernel
theorem dX3_worth_90 : decode cX3_worth 90 = .ok (.iload 6, 2) := by decide +kernel
theorem dX3_worth_92 : decode cX3_worth 92 = .ok (.iload 7, 2) := by decide +kernel
theorem dX3_worth_94 : decode cX3_worth 94 = .ok (.isub, 1) := by decide +kernel
theorem dX3_worth_95 : decode cX3_worth 95 = .ok (.aload_n 0, 1) := by decide +kernel
theorem dX3_worth_96 : decode cX3_worth 96 = .ok (.getfield 179, 3) := by decide +kernel
theorem dX3_worth_99 : decode cX3_worth 99 = .ok (.isub, 1) := by decide +kernel
theorem dX3_worth_100 : decode cX3_worth 100 = .ok (.ireturn, 1) := by decide +kernel
set_option maxRecDepth 20000 in
theorem ggX3_goesOverAll_X3_partBy : GoodIn wsX3_goesOverAll wsX3_partBy := goodIn_r _ [6, 1, 7, 8, 5, 9, 10, 11, 12, 17, 18, 19, 20, 21, 22, 23, 24, 25, 26, 27, 28, 29, 30, 31, 32] (by decide +kernel) (by decide +kernel)
set_option maxRecDepth 20000 in
theorem gX3_goesOverAll_X3_partBy : GoodIn wsX3_goesOverAll (wsV RX3 54 RX3 yX3_partBy wsX3_partBy) := goodIn_app (goodIn_of _ (by decide +kernel)) ggX3_goesOverAll_X3_partBy
set_option maxRecDepth 20000 in
theorem ggX3_goesOverAll_X3_allows : GoodIn wsX3_goesOverAll wsX3_allows := goodIn_r _ [16, 1, 17, 18, 19, 20, 21, 22, 23, 24, 25, 26, 27, 28, 29, 30, 31, 32] (by decide +kernel) (by decide +kernel)
set_option maxRecDepth 20000 in
theorem gX3_goesOverAll_X3_allows : GoodIn wsX3_goesOverAll (wsV RX3 64 RX3 yX3_allows wsX3_allows) := goodIn_app (goodIn_of _ (by decide +kernel)) ggX3_goesOverAll_X3_allows
theorem dX3_goesOverAll_0 : decode cX3_goesOverAll 0 = .ok (.iconst 0, 1) := by decide +kernel
theorem dX3_goesOverAll_1 : decode cX3_goesOverAll 1 = .ok (.istore_n 3, 1) := by decide +kernel
theorem dX3_goesOverAll_2 : decode cX3_goesOverAll 2 = .ok (.iload_n 3, 1) := by decide +kernel
theorem dX3_goesOverAll_3 : decode cX3_goesOverAll 3 = .ok (.aload_n 0, 1) := by decide +kernel
theorem dX3_goesOverAll_4 : decode cX3_goesOverAll 4 = .ok (.getfield 9, 3) := by decide +kernel
theorem dX3_goesOverAll_7 : decode cX3_goesOverAll 7 = .ok (.iconst 0, 1) := by decide +kernel
theorem dX3_goesOverAll_8 : decode cX3_goesOverAll 8 = .ok (.iaload, 1) := by decide +kernel
theorem dX3_goesOverAll_9 : decode cX3_goesOverAll 9 = .ok (.if_icmp .ge 45, 3) := by decide +kernel
theorem dX3_goesOverAll_12 : decode cX3_goesOverAll 12 = .ok (.aload_n 0, 1) := by decide +kernel
theorem dX3_goesOverAll_13 : decode cX3_goesOverAll 13 = .ok (.iload_n 3, 1) := by decide +kernel
theorem dX3_goesOverAll_14 : decode cX3_goesOverAll 14 = .ok (.iload_n 2, 1) := by decide +kernel
theorem dX3_goesOverAll_15 : decode cX3_goesOverAll 15 = .ok (.aload_n 0, 1) := by decide +kernel
theorem dX3_goesOverAll_16 : decode cX3_goesOverAll 16 = .ok (.getfield 9, 3) := by decide +kernel
theorem dX3_goesOverAll_19 : decode cX3_goesOverAll 19 = .ok (.iconst 5, 1) := by decide +kernel
theorem dX3_goesOverAll_20 : decode cX3_goesOverAll 20 = .ok (.iaload, 1) := by decide +kernel
theorem dX3_goesOverAll_21 : decode cX3_goesOverAll 21 = .ok (.aload_n 0, 1) := by decide +kernel
theorem dX3_goesOverAll_22 : decode cX3_goesOverAll 22 = .ok (.getfield 9, 3) := by decide +kernel
theorem dX3_goesOverAll_25 : decode cX3_goesOverAll 25 = .ok (.bipush 7, 2) := by decide +kernel
theorem dX3_goesOverAll_27 : decode cX3_goesOverAll 27 = .ok (.iaload, 1) := by decide +kernel
theorem dX3_goesOverAll_28 : decode cX3_goesOverAll 28 = .ok (.invokevirtual 54, 3) := by decide +kernel
theorem dX3_goesOverAll_31 : decode cX3_goesOverAll 31 = .ok (.aload_n 0, 1) := by decide +kernel
theorem dX3_goesOverAll_32 : decode cX3_goesOverAll 32 = .ok (.getfield 9, 3) := by decide +kernel
theorem dX3_goesOverAll_35 : decode cX3_goesOverAll 35 = .ok (.iconst 1, 1) := by decide +kernel
theorem dX3_goesOverAll_36 : decode cX3_goesOverAll 36 = .ok (.iaload, 1) := by decide +kernel
theorem dX3_goesOverAll_37 : decode cX3_goesOverAll 37 = .ok (.aload_n 0, 1) := by decide +kernel
theorem dX3_goesOverAll_38 : decode cX3_goesOverAll 38 = .ok (.iload_n 1, 1) := by decide +kernel
theorem dX3_goesOverAll_39 : decode cX3_goesOverAll 39 = .ok (.invokevirtual 64, 3) := by decide +kernel
theorem dX3_goesOverAll_42 : decode cX3_goesOverAll 42 = .ok (.iadd, 1) := by decide +kernel
theorem dX3_goesOverAll_43 : decode cX3_goesOverAll 43 = .ok (.if_icmp .le 5, 3) := by decide +kernel
theorem dX3_goesOverAll_46 : decode cX3_goesOverAll 46 = .ok (.iconst 0, 1) := by decide +kernel
theorem dX3_goesOverAll_47 : decode cX3_goesOverAll 47 = .ok (.ireturn, 1) := by decide +kernel
theorem dX3_goesOverAll_48 : decode cX3_goesOverAll 48 = .ok (.iinc 3 1, 3) := by decide +kernel
theorem dX3_goesOverAll_51 : decode cX3_goesOverAll 51 = .ok (.goto (-49), 3) := by decide +kernel
theorem dX3_goesOverAll_54 : decode cX3_goesOverAll 54 = .ok (.iconst 1, 1) := by decide +kernel
theorem dX3_goesOverAll_55 : decode cX3_goesOverAll 55 = .ok (.ireturn, 1) := by decide +kernel
set_option maxRecDepth 20000 in
theorem ggX3_went_X3_isIn : GoodIn wsX3_went wsX3_isIn := goodIn_r _ [4] (by decide +kernel) (by decide +kernel)
set_option maxRecDepth 20000 in
theorem gX3_went_X3_isIn : GoodIn wsX3_went (va_wsS RX3 99 yX3_isIn wsX3_isIn) := goodIn_app (goodIn_of _ (by decide +kernel)) ggX3_went_X3_isIn
set_option maxRecDepth 20000 in
theorem ggX3_went_X3_no : GoodIn wsX3_went wsX3_no := goodIn_r _ [8, 9, 29, 30, 31, 32, 33, 34, 35, 36, 37, 38, 39, 40, 41, 42, 43, 44] (by decide +kernel) (by decide +kernel)
set_option maxRecDepth 20000 in
theorem gX3_went_X3_no : GoodIn wsX3_went (wsV RX3 42 RX3 yX3_no wsX3_no) := goodIn_app (goodIn_of _ (by decide +kernel)) ggX3_went_X3_no
set_option maxRecDepth 20000 in
theorem ggX3_went_X3_goesOverAll : GoodIn wsX3_went wsX3_goesOverAll := goodIn_r _ [13, 14, 15, 16, 17, 3, 18, 19, 20, 21, 22, 23, 24, 25, 26, 27, 28, 29, 30, 31, 32, 33, 34, 35, 36, 37, 38, 39, 40, 41, 42, 43, 44] (by decide +kernel) (by decide +kernel)
set_option maxRecDepth 20000 in
theorem gX3_went_X3_goesOverAll : GoodIn wsX3_went (wsV RX3 195 RX3 yX3_goesOverAll wsX3_goesOverAll) := goodIn_app (goodIn_of _ (by decide +kernel)) ggX3_went_X3_goesOverAll
theorem dX3_went_0 : decode cX3_went 0 = .ok (.iload_n 1, 1) := by decide +kernel
theorem dX3_went_1 : decode cX3_went 1 = .ok (.iconst 0, 1) := by decide +kernel
theorem dX3_went_2 : decode cX3_went 2 = .ok (.bipush 6, 2) := by decide +kernel
theorem dX3_went_4 : decode cX3_went 4 = .ok (.invokestatic 99, 3) := by decide +kernel
theorem dX3_went_7 : decode cX3_went 7 = .ok (.ifCond .eq 12, 3) := by decide +kernel
theorem dX3_went_10 : decode cX3_went 10 = .ok (.iload_n 2, 1) := by decide +kernel
theorem dX3_went_11 : decode cX3_went 11 = .ok (.iconst 0, 1) := by decide +kernel
theorem dX3_went_12 : decode cX3_went 12 = .ok (.iconst 1, 1) := by decide +kernel
theorem dX3_went_13 : decode cX3_went 13 = .ok (.invokestatic 99, 3) := by decide +kernel
theorem dX3_went_16 : decode cX3_went 16 = .ok (.ifCond .ne 10, 3) := by decide +kernel
theorem dX3_went_19 : decode cX3_went 19 = .ok (.aload_n 0, 1) := by decide +kernel
theorem dX3_went_20 : decode cX3_went 20 = .ok (.bipush (-2), 2) := by decide +kernel
theorem dX3_went_22 : decode cX3_went 22 = .ok (.invokevirtual 42, 3) := by decide +kernel
theorem dX3_went_25 : decode cX3_went 25 = .ok (.ireturn, 1) := by decide +kernel
theorem dX3_went_26 : decode cX3_went 26 = .ok (.iconst 0, 1) := by decide +kernel
theorem dX3_went_27 : decode cX3_went 27 = .ok (.istore_n 3, 1) := by decide +kernel
theorem dX3_went_28 : decode cX3_went 28 = .ok (.bipush (-9), 2) := by decide +kernel
theorem dX3_went_30 : decode cX3_went 30 = .ok (.istore 4, 2) := by decide +kernel
theorem dX3_went_32 : decode cX3_went 32 = .ok (.iconst 0, 1) := by decide +kernel
theorem dX3_went_33 : decode cX3_went 33 = .ok (.istore 5, 2) := by decide +kernel
theorem dX3_went_35 : decode cX3_went 35 = .ok (.iload 5, 2) := by decide +kernel
theorem dX3_went_37 : decode cX3_went 37 = .ok (.bipush 30, 2) := by decide +kernel
theorem dX3_went_39 : decode cX3_went 39 = .ok (.if_icmp .gt 29, 3) := by decide +kernel
theorem dX3_went_42 : decode cX3_went 42 = .ok (.aload_n 0, 1) := by decide +kernel
theorem dX3_went_43 : decode cX3_went 43 = .ok (.iload_n 1, 1) := by decide +kernel
theorem dX3_went_44 : decode cX3_went 44 = .ok (.iload 5, 2) := by decide +kernel
theorem dX3_went_46 : decode cX3_went 46 = .ok (.invokevirtual 195, 3) := by decide +kernel
theorem dX3_went_49 : decode cX3_went 49 = .ok (.ifCond .ne 6, 3) := by decide +kernel
theorem dX3_went_52 : decode cX3_went 52 = .ok (.goto 10, 3) := by decide +kernel
theorem dX3_went_55 : decode cX3_went 55 = .ok (.iinc 3 1, 3) := by decide +kernel
theorem dX3_went_58 : decode cX3_went 58 = .ok (.iload 5, 2) := by decide +kernel
theorem dX3_went_60 : decode cX3_went 60 = .ok (.istore 4, 2) := by decide +kernel
theorem dX3_went_62 : decode cX3_went 62 = .ok (.iinc 5 1, 3) := by decide +kernel
theorem dX3_went_65 : decode cX3_went 65 = .ok (.goto (-30), 3) := by decide +kernel
theorem dX3_went_68 : decode cX3_went 68 = .ok (.iload_n 2, 1) := by decide +kernel
theorem dX3_went_69 : decode cX3_went 69 = .ok (.ifCond .ne 7, 3) := by decide +kernel
theorem dX3_went_72 : decode cX3_went 72 = .ok (.iload_n 3, 1) := by decide +kernel
theorem dX3_went_73 : decode cX3_went 73 = .ok (.goto 5, 3) := by decide +kernel
theorem dX3_went_76 : decode cX3_went 76 = .ok (.iload 4, 2) := by decide +kernel
theorem dX3_went_78 : decode cX3_went 78 = .ok (.ireturn, 1) := by decide +kernel
theorem dX3_areTold_0 : decode cX3_areTold 0 = .ok (.iconst 0, 1) := by decide +kernel
theorem dX3_areTold_1 : decode cX3_areTold 1 = .ok (.istore_n 1, 1) := by decide +kernel
theorem dX3_areTold_2 : decode cX3_areTold 2 = .ok (.iload_n 1, 1) := by decide +kernel
theorem dX3_areTold_3 : decode cX3_areTold 3 = .ok (.aload_n 0, 1) := by decide +kernel
theorem dX3_areTold_4 : decode cX3_areTold 4 = .ok (.getfield 161, 3) := by decide +kernel
theorem dX3_areTold_7 : decode cX3_areTold 7 = .ok (.if_icmp .ge 41, 3) := by decide +kernel
theorem dX3_areTold_10 : decode cX3_areTold 10 = .ok (.iload_n 1, 1) := by decide +kernel
theorem dX3_areTold_11 : decode cX3_areTold 11 = .ok (.iconst 2, 1) := by decide +kernel
theorem dX3_areTold_12 : decode cX3_areTold 12 = .ok (.irem, 1) := by decide +kernel
theorem dX3_areTold_13 : decode cX3_areTold 13 = .ok (.ifCond .ne 17, 3) := by decide +kernel
theorem dX3_areTold_16 : decode cX3_areTold 16 = .ok (.aload_n 0, 1) := by decide +kernel
theorem dX3_areTold_17 : decode cX3_areTold 17 = .ok (.getfield 25, 3) := by decide +kernel
theorem dX3_areTold_20 : decode cX3_areTold 20 = .ok (.iload_n 1, 1) := by decide +kernel
theorem dX3_areTold_21 : decode cX3_areTold 21 = .ok (.iaload, 1) := by decide +kernel
theorem dX3_areTold_22 : decode cX3_areTold 22 = .ok (.bipush 7, 2) := by decide +kernel
theorem dX3_areTold_24 : decode cX3_areTold 24 = .ok (.if_icmp .lt 18, 3) := by decide +kernel
theorem dX3_areTold_27 : decode cX3_areTold 27 = .ok (.goto 13, 3) := by decide +kernel
theorem dX3_areTold_30 : decode cX3_areTold 30 = .ok (.aload_n 0, 1) := by decide +kernel
theorem dX3_areTold_31 : decode cX3_areTold 31 = .ok (.getfield 25, 3) := by decide +kernel
theorem dX3_areTold_34 : decode cX3_areTold 34 = .ok (.iload_n 1, 1) := by decide +kernel
theorem dX3_areTold_35 : decode cX3_areTold 35 = .ok (.iaload, 1) := by decide +kernel
theorem dX3_areTold_36 : decode cX3_areTold 36 = .ok (.iconst 1, 1) := by decide +kernel
theorem dX3_areTold_37 : decode cX3_areTold 37 = .ok (.if_icmp .le 5, 3) := by decide +kernel
theorem dX3_areTold_40 : decode cX3_areTold 40 = .ok (.iconst 0, 1) := by decide +kernel
theorem dX3_areTold_41 : decode cX3_areTold 41 = .ok (.ireturn, 1) := by decide +kernel
theorem dX3_areTold_42 : decode cX3_areTold 42 = .ok (.iinc 1 1, 3) := by decide +kernel
theorem dX3_areTold_45 : decode cX3_areTold 45 = .ok (.goto (-43), 3) := by decide +kernel
theorem dX3_areTold_48 : decode cX3_areTold 48 = .ok (.aload_n 0, 1) := by decide +kernel
theorem dX3_areTold_49 : decode cX3_areTold 49 = .ok (.getfield 161, 3) := by decide +kernel
theorem dX3_areTold_52 : decode cX3_areTold 52 = .ok (.iconst 2, 1) := by decide +kernel
theorem dX3_areTold_53 : decode cX3_areTold 53 = .ok (.irem, 1) := by decide +kernel
theorem dX3_areTold_54 : decode cX3_areTold 54 = .ok (.ifCond .ne 7, 3) := by decide +kernel
theorem dX3_areTold_57 : decode cX3_areTold 57 = .ok (.iconst 1, 1) := by decide +kernel
theorem dX3_areTold_58 : decode cX3_areTold 58 = .ok (.goto 4, 3) := by decide +kernel
theorem dX3_areTold_61 : decode cX3_areTold 61 = .ok (.iconst 0, 1) := by decide +kernel
theorem dX3_areTold_62 : decode cX3_areTold 62 = .ok (.ireturn, 1) := by decide +kernel
set_option maxRecDepth 20000 in
theorem ggX3_isSo_X3_coldBy : GoodIn wsX3_isSo wsX3_coldBy := goodIn_r _ [7, 8, 9, 6, 10] (by decide +kernel) (by decide +kernel)
set_option maxRecDepth 20000 in
theorem gX3_isSo_X3_coldBy : GoodIn wsX3_isSo (va_wsS RX3 61 yX3_coldBy wsX3_coldBy) := goodIn_app (goodIn_of _ (by decide +kernel)) ggX3_isSo_X3_coldBy
set_option maxRecDepth 20000 in
theorem ggX3_isSo_X3_thickOf : GoodIn wsX3_isSo wsX3_thickOf := goodIn_r _ [13, 14, 15, 6, 16] (by decide +kernel) (by decide +kernel)
set_option maxRecDepth 20000 in
theorem gX3_isSo_X3_thickOf : GoodIn wsX3_isSo (va_wsS RX3 50 yX3_thickOf wsX3_thickOf) := goodIn_app (goodIn_of _ (by decide +kernel)) ggX3_isSo_X3_thickOf
set_option maxRecDepth 20000 in
theorem ggX3_isSo_X3_allows : GoodIn wsX3_isSo wsX3_allows := goodIn_r _ [20, 1, 24, 25, 26, 27, 28, 29, 30, 31, 32, 33, 34, 35, 36, 37, 38, 39] (by decide +kernel) (by decide +kernel)
set_option maxRecDepth 20000 in
theorem gX3_isSo_X3_allows : GoodIn wsX3_isSo (wsV RX3 64 RX3 yX3_allows wsX3_allows) := goodIn_app (goodIn_of _ (by decide +kernel)) ggX3_isSo_X3_allows
set_option maxRecDepth 20000 in
theorem ggX3_isSo_X3_swellsBy : GoodIn wsX3_isSo wsX3_swellsBy := goodIn_r _ [23] (by decide +kernel) (by decide +kernel)
set_option maxRecDepth 20000 in
theorem gX3_isSo_X3_swellsBy : GoodIn wsX3_isSo (va_wsS RX3 71 yX3_swellsBy wsX3_swellsBy) := goodIn_app (goodIn_of _ (by decide +kernel)) ggX3_isSo_X3_swellsBy
set_option maxRecDepth 20000 in
theorem ggX3_isSo_X3_least : GoodIn wsX3_isSo wsX3_least := goodIn_r _ [10] (by decide +kernel) (by decide +kernel)
set_option maxRecDepth 20000 in
theorem gX3_isSo_X3_least : GoodIn wsX3_isSo (va_wsS RX3 58 yX3_least wsX3_least) := goodIn_app (goodIn_of _ (by decide +kernel)) ggX3_isSo_X3_least
theorem dX3_isSo_0 : decode cX3_isSo 0 = .ok (.aload_n 0, 1) := by decide +kernel
theorem dX3_isSo_1 : decode cX3_isSo 1 = .ok (.getfield 9, 3) := by decide +kernel
theorem dX3_isSo_4 : decode cX3_isSo 4 = .ok (.iconst 4, 1) := by decide +kernel
theorem dX3_isSo_5 : decode cX3_isSo 5 = .ok (.iaload, 1) := by decide +kernel
theorem dX3_isSo_6 : decode cX3_isSo 6 = .ok (.istore_n 2, 1) := by decide +kernel
theorem dX3_isSo_7 : decode cX3_isSo 7 = .ok (.aload_n 0, 1) := by decide +kernel
theorem dX3_isSo_8 : decode cX3_isSo 8 = .ok (.getfield 9, 3) := by decide +kernel
theorem dX3_isSo_11 : decode cX3_isSo 11 = .ok (.iconst 5, 1) := by decide +kernel
theorem dX3_isSo_12 : decode cX3_isSo 12 = .ok (.iaload, 1) := by decide +kernel
theorem dX3_isSo_13 : decode cX3_isSo 13 = .ok (.istore_n 3, 1) := by decide +kernel
theorem dX3_isSo_14 : decode cX3_isSo 14 = .ok (.iconst 0, 1) := by decide +kernel
theorem dX3_isSo_15 : decode cX3_isSo 15 = .ok (.istore 4, 2) := by decide +kernel
theorem dX3_isSo_17 : decode cX3_isSo 17 = .ok (.iload 4, 2) := by decide +kernel
theorem dX3_isSo_19 : decode cX3_isSo 19 = .ok (.aload_n 0, 1) := by decide +kernel
theorem dX3_isSo_20 : decode cX3_isSo 20 = .ok (.getfield 161, 3) := by decide +kernel
theorem dX3_isSo_23 : decode cX3_isSo 23 = .ok (.if_icmp .ge 113, 3) := by decide +kernel
theorem dX3_isSo_26 : decode cX3_isSo 26 = .ok (.aload_n 0, 1) := by decide +kernel
theorem dX3_isSo_27 : decode cX3_isSo 27 = .ok (.getfield 25, 3) := by decide +kernel
theorem dX3_isSo_30 : decode cX3_isSo 30 = .ok (.iload 4, 2) := by decide +kernel
theorem dX3_isSo_32 : decode cX3_isSo 32 = .ok (.iaload, 1) := by decide +kernel
theorem dX3_isSo_33 : decode cX3_isSo 33 = .ok (.istore 5, 2) := by decide +kernel
theorem dX3_isSo_35 : decode cX3_isSo 35 = .ok (.iload 5, 2) := by decide +kernel
theorem dX3_isSo_37 : decode cX3_isSo 37 = .ok (.iload_n 3, 1) := by decide +kernel
theorem dX3_isSo_38 : decode cX3_isSo 38 = .ok (.invokestatic 61, 3) := by decide +kernel
theorem dX3_isSo_41 : decode cX3_isSo 41 = .ok (.istore_n 3, 1) := by decide +kernel
theorem dX3_isSo_42 : decode cX3_isSo 42 = .ok (.aload_n 0, 1) := by decide +kernel
theorem dX3_isSo_43 : decode cX3_isSo 43 = .ok (.getfield 9, 3) := by decide +kernel
theorem dX3_isSo_46 : decode cX3_isSo 46 = .ok (.bipush 10, 2) := by decide +kernel
theorem dX3_isSo_48 : decode cX3_isSo 48 = .ok (.aload_n 0, 1) := by decide +kernel
theorem dX3_isSo_49 : decode cX3_isSo 49 = .ok (.getfield 9, 3) := by decide +kernel
theorem dX3_isSo_52 : decode cX3_isSo 52 = .ok (.iconst 3, 1) := by decide +kernel
theorem dX3_isSo_53 : decode cX3_isSo 53 = .ok (.iaload, 1) := by decide +kernel
theorem dX3_isSo_54 : decode cX3_isSo 54 = .ok (.iadd, 1) := by decide +kernel
theorem dX3_isSo_55 : decode cX3_isSo 55 = .ok (.iaload, 1) := by decide +kernel
theorem dX3_isSo_56 : decode cX3_isSo 56 = .ok (.iload_n 1, 1) := by decide +kernel
theorem dX3_isSo_57 : decode cX3_isSo 57 = .ok (.iload_n 2, 1) := by decide +kernel
theorem dX3_isSo_58 : decode cX3_isSo 58 = .ok (.iload_n 3, 1) := by decide +kernel
theorem dX3_isSo_59 : decode cX3_isSo 59 = .ok (.aload_n 0, 1) := by decide +kernel
theorem dX3_isSo_60 : decode cX3_isSo 60 = .ok (.getfield 9, 3) := by decide +kernel
theorem dX3_isSo_63 : decode cX3_isSo 63 = .ok (.bipush 7, 2) := by decide +kernel
theorem dX3_isSo_65 : decode cX3_isSo 65 = .ok (.iaload, 1) := by decide +kernel
theorem dX3_isSo_66 : decode cX3_isSo 66 = .ok (.invokestatic 50, 3) := by decide +kernel
theorem dX3_isSo_69 : decode cX3_isSo 69 = .ok (.aload_n 0, 1) := by decide +kernel
theorem dX3_isSo_70 : decode cX3_isSo 70 = .ok (.getfield 9, 3) := by decide +kernel
theorem dX3_isSo_73 : decode cX3_isSo 73 = .ok (.iconst 1, 1) := by decide +kernel
theorem dX3_isSo_74 : decode cX3_isSo 74 = .ok (.iaload, 1) := by decide +kernel
theorem dX3_isSo_75 : decode cX3_isSo 75 = .ok (.aload_n 0, 1) := by decide +kernel
theorem dX3_isSo_76 : decode cX3_isSo 76 = .ok (.iload 5, 2) := by decide +kernel
theorem dX3_isSo_78 : decode cX3_isSo 78 = .ok (.invokevirtual 64, 3) := by decide +kernel
theorem dX3_isSo_81 : decode cX3_isSo 81 = .ok (.iadd, 1) := by decide +kernel
theorem dX3_isSo_82 : decode cX3_isSo 82 = .ok (.if_icmp .gt 7, 3) := by decide +kernel
theorem dX3_isSo_85 : decode cX3_isSo 85 = .ok (.iconst 1, 1) := by decide +kernel
theorem dX3_isSo_86 : decode cX3_isSo 86 = .ok (.goto 4, 3) := by decide +kernel
theorem dX3_isSo_89 : decode cX3_isSo 89 = .ok (.iconst 0, 1) := by decide +kernel
theorem dX3_isSo_90 : decode cX3_isSo 90 = .ok (.istore 6, 2) := by decide +kernel
theorem dX3_isSo_92 : decode cX3_isSo 92 = .ok (.iload 6, 2) := by decide +kernel
theorem dX3_isSo_94 : decode cX3_isSo 94 = .ok (.aload_n 0, 1) := by decide +kernel
theorem dX3_isSo_95 : decode cX3_isSo 95 = .ok (.getfield 25, 3) := by decide +kernel
theorem dX3_isSo_98 : decode cX3_isSo 98 = .ok (.iload 4, 2) := by decide +kernel
theorem dX3_isSo_100 : decode cX3_isSo 100 = .ok (.iconst 1, 1) := by decide +kernel
theorem dX3_isSo_101 : decode cX3_isSo 101 = .ok (.iadd, 1) := by decide +kernel
theorem dX3_isSo_102 : decode cX3_isSo 102 = .ok (.iaload, 1) := by decide +kernel
theorem dX3_isSo_103 : decode cX3_isSo 103 = .ok (.iconst 1, 1) := by decide +kernel
theorem dX3_isSo_104 : decode cX3_isSo 104 = .ok (.if_icmp .ne 7, 3) := by decide +kernel
theorem dX3_isSo_107 : decode cX3_isSo 107 = .ok (.iconst 1, 1) := by decide +kernel
theorem dX3_isSo_108 : decode cX3_isSo 108 = .ok (.goto 4, 3) := by decide +kernel
theorem dX3_isSo_111 : decode cX3_isSo 111 = .ok (.iconst 0, 1) := by decide +kernel
theorem dX3_isSo_112 : decode cX3_isSo 112 = .ok (.if_icmp .eq 5, 3) := by decide +kernel
theorem dX3_isSo_115 : decode cX3_isSo 115 = .ok (.iconst 0, 1) := by decide +kernel
theorem dX3_isSo_116 : decode cX3_isSo 116 = .ok (.ireturn, 1) := by decide +kernel
theorem dX3_isSo_117 : decode cX3_isSo 117 = .ok (.bipush 30, 2) := by decide +kernel
theorem dX3_isSo_119 : decode cX3_isSo 119 = .ok (.iload_n 2, 1) := by decide +kernel
theorem dX3_isSo_120 : decode cX3_isSo 120 = .ok (.iload 5, 2) := by decide +kernel
theorem dX3_isSo_122 : decode cX3_isSo 122 = .ok (.invokestatic 71, 3) := by decide +kernel
theorem dX3_isSo_125 : decode cX3_isSo 125 = .ok (.iadd, 1) := by decide +kernel
theorem dX3_isSo_126 : decode cX3_isSo 126 = .ok (.invokestatic 58, 3) := by decide +kernel
theorem dX3_isSo_129 : decode cX3_isSo 129 = .ok (.istore_n 2, 1) := by decide +kernel
theorem dX3_isSo_130 : decode cX3_isSo 130 = .ok (.iinc 4 2, 3) := by decide +kernel
theorem dX3_isSo_133 : decode cX3_isSo 133 = .ok (.goto (-116), 3) := by decide +kernel
theorem dX3_isSo_136 : decode cX3_isSo 136 = .ok (.iconst 1, 1) := by decide +kernel
theorem dX3_isSo_137 : decode cX3_isSo 137 = .ok (.ireturn, 1) := by decide +kernel
set_option maxRecDepth 20000 in
theorem ggX3_feel_X3_isIn : GoodIn wsX3_feel wsX3_isIn := goodIn_r _ [4] (by decide +kernel) (by decide +kernel)
set_option maxRecDepth 20000 in
theorem gX3_feel_X3_isIn : GoodIn wsX3_feel (va_wsS RX3 99 yX3_isIn wsX3_isIn) := goodIn_app (goodIn_of _ (by decide +kernel)) ggX3_feel_X3_isIn
set_option maxRecDepth 20000 in
theorem ggX3_feel_X3_no : GoodIn wsX3_feel wsX3_no := goodIn_r _ [8, 9, 44, 45, 46, 47, 48, 49, 50, 51, 52, 53, 54, 55, 56, 57, 58, 59] (by decide +kernel) (by decide +kernel)
set_option maxRecDepth 20000 in
theorem gX3_feel_X3_no : GoodIn wsX3_feel (wsV RX3 42 RX3 yX3_no wsX3_no) := goodIn_app (goodIn_of _ (by decide +kernel)) ggX3_feel_X3_no
set_option maxRecDepth 20000 in
theorem ggX3_feel_X3_isOff : GoodIn wsX3_feel wsX3_isOff := goodIn_r _ [13, 14, 44, 45, 46, 47, 48, 49, 50, 51, 52, 53, 54, 55, 56, 57, 58, 59] (by decide +kernel) (by decide +kernel)
set_option maxRecDepth 20000 in
theorem gX3_feel_X3_isOff : GoodIn wsX3_feel (wsV RX3 110 RX3 yX3_isOff wsX3_isOff) := goodIn_app (goodIn_of _ (by decide +kernel)) ggX3_feel_X3_isOff
set_option maxRecDepth 20000 in
theorem ggX3_feel_X3_areTold : GoodIn wsX3_feel wsX3_areTold := goodIn_r _ [18, 19, 20, 44, 45, 46, 47, 48, 49, 50, 51, 52, 53, 54, 55, 56, 57, 58, 59] (by decide +kernel) (by decide +kernel)
set_option maxRecDepth 20000 in
theorem gX3_feel_X3_areTold : GoodIn wsX3_feel (wsV RX3 198 RX3 yX3_areTold wsX3_areTold) := goodIn_app (goodIn_of _ (by decide +kernel)) ggX3_feel_X3_areTold
set_option maxRecDepth 20000 in
theorem ggX3_feel_X3_isSo : GoodIn wsX3_feel wsX3_isSo := goodIn_r _ [24, 14, 19, 20, 25, 26, 3, 27, 28, 29, 30, 31, 32, 33, 34, 35, 36, 37, 38, 39, 40, 41, 42, 43, 44, 45, 46, 47, 48, 49, 50, 51, 52, 53, 54, 55, 56, 57, 58, 59] (by decide +kernel) (by decide +kernel)
set_option maxRecDepth 20000 in
theorem gX3_feel_X3_isSo : GoodIn wsX3_feel (wsV RX3 201 RX3 yX3_isSo wsX3_isSo) := goodIn_app (goodIn_of _ (by decide +kernel)) ggX3_feel_X3_isSo
theorem dX3_feel_0 : decode cX3_feel 0 = .ok (.iload_n 1, 1) := by decide +kernel
theorem dX3_feel_1 : decode cX3_feel 1 = .ok (.iconst 0, 1) := by decide +kernel
theorem dX3_feel_2 : decode cX3_feel 2 = .ok (.iconst 1, 1) := by decide +kernel
theorem dX3_feel_3 : decode cX3_feel 3 = .ok (.invokestatic 99, 3) := by decide +kernel
theorem dX3_feel_6 : decode cX3_feel 6 = .ok (.ifCond .ne 10, 3) := by decide +kernel
theorem dX3_feel_9 : decode cX3_feel 9 = .ok (.aload_n 0, 1) := by decide +kernel
theorem dX3_feel_10 : decode cX3_feel 10 = .ok (.bipush (-2), 2) := by decide +kernel
theorem dX3_feel_12 : decode cX3_feel 12 = .ok (.invokevirtual 42, 3) := by decide +kernel
theorem dX3_feel_15 : decode cX3_feel 15 = .ok (.ireturn, 1) := by decide +kernel
theorem dX3_feel_16 : decode cX3_feel 16 = .ok (.aload_n 0, 1) := by decide +kernel
theorem dX3_feel_17 : decode cX3_feel 17 = .ok (.invokevirtual 110, 3) := by decide +kernel
theorem dX3_feel_20 : decode cX3_feel 20 = .ok (.ifCond .ne 10, 3) := by decide +kernel
theorem dX3_feel_23 : decode cX3_feel 23 = .ok (.aload_n 0, 1) := by decide +kernel
theorem dX3_feel_24 : decode cX3_feel 24 = .ok (.invokevirtual 198, 3) := by decide +kernel
theorem dX3_feel_27 : decode cX3_feel 27 = .ok (.ifCond .ne 10, 3) := by decide +kernel
theorem dX3_feel_30 : decode cX3_feel 30 = .ok (.aload_n 0, 1) := by decide +kernel
theorem dX3_feel_31 : decode cX3_feel 31 = .ok (.bipush (-3), 2) := by decide +kernel
theorem dX3_feel_33 : decode cX3_feel 33 = .ok (.invokevirtual 42, 3) := by decide +kernel
theorem dX3_feel_36 : decode cX3_feel 36 = .ok (.ireturn, 1) := by decide +kernel
theorem dX3_feel_37 : decode cX3_feel 37 = .ok (.bipush (-9), 2) := by decide +kernel
theorem dX3_feel_39 : decode cX3_feel 39 = .ok (.istore_n 2, 1) := by decide +kernel
theorem dX3_feel_40 : decode cX3_feel 40 = .ok (.iconst 0, 1) := by decide +kernel
theorem dX3_feel_41 : decode cX3_feel 41 = .ok (.istore_n 3, 1) := by decide +kernel
theorem dX3_feel_42 : decode cX3_feel 42 = .ok (.iload_n 3, 1) := by decide +kernel
theorem dX3_feel_43 : decode cX3_feel 43 = .ok (.sipush 240, 3) := by decide +kernel
theorem dX3_feel_46 : decode cX3_feel 46 = .ok (.if_icmp .gt 32, 3) := by decide +kernel
theorem dX3_feel_49 : decode cX3_feel 49 = .ok (.iload_n 1, 1) := by decide +kernel
theorem dX3_feel_50 : decode cX3_feel 50 = .ok (.iconst 1, 1) := by decide +kernel
theorem dX3_feel_51 : decode cX3_feel 51 = .ok (.if_icmp .eq 7, 3) := by decide +kernel
theorem dX3_feel_54 : decode cX3_feel 54 = .ok (.iload_n 2, 1) := by decide +kernel
theorem dX3_feel_55 : decode cX3_feel 55 = .ok (.ifCond .ge 23, 3) := by decide +kernel
theorem dX3_feel_58 : decode cX3_feel 58 = .ok (.aload_n 0, 1) := by decide +kernel
theorem dX3_feel_59 : decode cX3_feel 59 = .ok (.iload_n 3, 1) := by decide +kernel
theorem dX3_feel_60 : decode cX3_feel 60 = .ok (.invokevirtual 201, 3) := by decide +kernel
theorem dX3_feel_63 : decode cX3_feel 63 = .ok (.ifCond .eq 7, 3) := by decide +kernel
theorem dX3_feel_66 : decode cX3_feel 66 = .ok (.iload_n 3, 1) := by decide +kernel
theorem dX3_feel_67 : decode cX3_feel 67 = .ok (.goto 4, 3) := by decide +kernel
theorem dX3_feel_70 : decode cX3_feel 70 = .ok (.iload_n 2, 1) := by decide +kernel
theorem dX3_feel_71 : decode cX3_feel 71 = .ok (.istore_n 2, 1) := by decide +kernel
theorem dX3_feel_72 : decode cX3_feel 72 = .ok (.iinc 3 1, 3) := by decide +kernel
theorem dX3_feel_75 : decode cX3_feel 75 = .ok (.goto (-33), 3) := by decide +kernel
theorem dX3_feel_78 : decode cX3_feel 78 = .ok (.iload_n 2, 1) := by decide +kernel
theorem dX3_feel_79 : decode cX3_feel 79 = .ok (.ireturn, 1) := by decide +kernel
set_option maxRecDepth 20000 in
theorem ggX3_row_X3_no : GoodIn wsX3_row wsX3_no := goodIn_r _ [7, 8, 9, 10, 11, 12, 13, 14, 15, 16, 17, 18, 19, 20, 21, 22, 23, 24] (by decide +kernel) (by decide +kernel)
set_option maxRecDepth 20000 in
theorem gX3_row_X3_no : GoodIn wsX3_row (wsV RX3 42 RX3 yX3_no wsX3_no) := goodIn_app (goodIn_of _ (by decide +kernel)) ggX3_row_X3_no
theorem dX3_row_0 : decode cX3_row 0 = .ok (.iload_n 1, 1) := by decide +kernel
theorem dX3_row_1 : decode cX3_row 1 = .ok (.ifCond .ge 10, 3) := by decide +kernel
theorem dX3_row_4 : decode cX3_row 4 = .ok (.aload_n 0, 1) := by decide +kernel
theorem dX3_row_5 : decode cX3_row 5 = .ok (.bipush (-4), 2) := by decide +kernel
theorem dX3_row_7 : decode cX3_row 7 = .ok (.invokevirtual 42, 3) := by decide +kernel
theorem dX3_row_10 : decode cX3_row 10 = .ok (.ireturn, 1) := by decide +kernel
theorem dX3_row_11 : decode cX3_row 11 = .ok (.iload_n 1, 1) := by decide +kernel
theorem dX3_row_12 : decode cX3_row 12 = .ok (.bipush 9, 2) := by decide +kernel
theorem dX3_row_14 : decode cX3_row 14 = .ok (.if_icmp .gt 12, 3) := by decide +kernel
theorem dX3_row_17 : decode cX3_row 17 = .ok (.aload_n 0, 1) := by decide +kernel
theorem dX3_row_18 : decode cX3_row 18 = .ok (.getfield 161, 3) := by decide +kernel
theorem dX3_row_21 : decode cX3_row 21 = .ok (.bipush 12, 2) := by decide +kernel
theorem dX3_row_23 : decode cX3_row 23 = .ok (.if_icmp .ne 10, 3) := by decide +kernel
theorem dX3_row_26 : decode cX3_row 26 = .ok (.aload_n 0, 1) := by decide +kernel
theorem dX3_row_27 : decode cX3_row 27 = .ok (.bipush (-6), 2) := by decide +kernel
theorem dX3_row_29 : decode cX3_row 29 = .ok (.invokevirtual 42, 3) := by decide +kernel
theorem dX3_row_32 : decode cX3_row 32 = .ok (.ireturn, 1) := by decide +kernel
theorem dX3_row_33 : decode cX3_row 33 = .ok (.aload_n 0, 1) := by decide +kernel
theorem dX3_row_34 : decode cX3_row 34 = .ok (.getfield 25, 3) := by decide +kernel
theorem dX3_row_37 : decode cX3_row 37 = .ok (.aload_n 0, 1) := by decide +kernel
theorem dX3_row_38 : decode cX3_row 38 = .ok (.getfield 161, 3) := by decide +kernel
theorem dX3_row_41 : decode cX3_row 41 = .ok (.iload_n 1, 1) := by decide +kernel
theorem dX3_row_42 : decode cX3_row 42 = .ok (.iastore, 1) := by decide +kernel
theorem dX3_row_43 : decode cX3_row 43 = .ok (.aload_n 0, 1) := by decide +kernel
theorem dX3_row_44 : decode cX3_row 44 = .ok (.dup, 1) := by decide +kernel
theorem dX3_row_45 : decode cX3_row 45 = .ok (.getfield 161, 3) := by decide +kernel
theorem dX3_row_48 : decode cX3_row 48 = .ok (.iconst 1, 1) := by decide +kernel
theorem dX3_row_49 : decode cX3_row 49 = .ok (.iadd, 1) := by decide +kernel
theorem dX3_row_50 : decode cX3_row 50 = .ok (.putfield 161, 3) := by decide +kernel
theorem dX3_row_53 : decode cX3_row 53 = .ok (.aload_n 0, 1) := by decide +kernel
theorem dX3_row_54 : decode cX3_row 54 = .ok (.getfield 161, 3) := by decide +kernel
theorem dX3_row_57 : decode cX3_row 57 = .ok (.ireturn, 1) := by decide +kernel
set_option maxRecDepth 20000 in
theorem ggX3_judge_X3_begins : GoodIn wsX3_judge wsX3_begins := goodIn_r _ [7, 8, 9, 10, 11, 6, 12, 70, 71, 72, 73, 74, 75, 76, 77, 78, 79, 80, 81, 82, 83, 84, 85] (by decide +kernel) (by decide +kernel)
set_option maxRecDepth 20000 in
theorem gX3_judge_X3_begins : GoodIn wsX3_judge (wsV RX3 135 RX3 yX3_begins wsX3_begins) := goodIn_app (goodIn_of _ (by decide +kernel)) ggX3_judge_X3_begins
set_option maxRecDepth 20000 in
theorem ggX3_judge_X3_isOff : GoodIn wsX3_judge wsX3_isOff := goodIn_r _ [16, 8, 70, 71, 72, 73, 74, 75, 76, 77, 78, 79, 80, 81, 82, 83, 84, 85] (by decide +kernel) (by decide +kernel)
set_option maxRecDepth 20000 in
theorem gX3_judge_X3_isOff : GoodIn wsX3_judge (wsV RX3 110 RX3 yX3_isOff wsX3_isOff) := goodIn_app (goodIn_of _ (by decide +kernel)) ggX3_judge_X3_isOff
set_option maxRecDepth 20000 in
theorem ggX3_judge_X3_waits : GoodIn wsX3_judge wsX3_waits := goodIn_r _ [20, 8, 21, 22, 6, 23, 70, 71, 72, 73, 74, 75, 76, 77, 78, 79, 80, 81, 82, 83, 84, 85] (by decide +kernel) (by decide +kernel)
set_option maxRecDepth 20000 in
theorem gX3_judge_X3_waits : GoodIn wsX3_judge (wsV RX3 117 RX3 yX3_waits wsX3_waits) := goodIn_app (goodIn_of _ (by decide +kernel)) ggX3_judge_X3_waits
set_option maxRecDepth 20000 in
theorem ggX3_judge_X3_tried : GoodIn wsX3_judge wsX3_tried := goodIn_r _ [27, 8, 28, 29, 30, 6, 31, 32, 33, 34, 35, 36, 37, 38, 39, 40, 41, 42, 43, 44, 45, 46, 47, 48, 21, 22, 23, 49, 50, 51, 52, 53, 54, 55, 56, 57, 58, 59, 60, 61, 62, 63, 64, 65, 70, 71, 72, 73, 74, 75, 76, 77, 78, 79, 80, 81, 82, 83, 84, 85] (by decide +kernel) (by decide +kernel)
set_option maxRecDepth 20000 in
theorem gX3_judge_X3_tried : GoodIn wsX3_judge (wsV RX3 114 RX3 yX3_tried wsX3_tried) := goodIn_app (goodIn_of _ (by decide +kernel)) ggX3_judge_X3_tried
set_option maxRecDepth 20000 in
theorem ggX3_judge_X3_ends : GoodIn wsX3_judge wsX3_ends := goodIn_r _ [69, 9, 8, 10, 11, 6, 12, 70, 71, 72, 73, 74, 75, 76, 77, 78, 79, 80, 81, 82, 83, 84, 85] (by decide +kernel) (by decide +kernel)
set_option maxRecDepth 20000 in
theorem gX3_judge_X3_ends : GoodIn wsX3_judge (wsV RX3 138 RX3 yX3_ends wsX3_ends) := goodIn_app (goodIn_of _ (by decide +kernel)) ggX3_judge_X3_ends
theorem dX3_judge_0 : decode cX3_judge 0 = .ok (.bipush (-9), 2) := by decide +kernel
theorem dX3_judge_2 : decode cX3_judge 2 = .ok (.istore_n 1, 1) := by decide +kernel
theorem dX3_judge_3 : decode cX3_judge 3 = .ok (.aload_n 0, 1) := by decide +kernel
theorem dX3_judge_4 : decode cX3_judge 4 = .ok (.invokevirtual 135, 3) := by decide +kernel
theorem dX3_judge_7 : decode cX3_judge 7 = .ok (.iconst 0, 1) := by decide +kernel
theorem dX3_judge_8 : decode cX3_judge 8 = .ok (.istore_n 2, 1) := by decide +kernel
theorem dX3_judge_9 : decode cX3_judge 9 = .ok (.iload_n 2, 1) := by decide +kernel
theorem dX3_judge_10 : decode cX3_judge 10 = .ok (.aload_n 0, 1) := by decide +kernel
theorem dX3_judge_11 : decode cX3_judge 11 = .ok (.getfield 161, 3) := by decide +kernel
theorem dX3_judge_14 : decode cX3_judge 14 = .ok (.if_icmp .ge 74, 3) := by decide +kernel
theorem dX3_judge_17 : decode cX3_judge 17 = .ok (.iload_n 1, 1) := by decide +kernel
theorem dX3_judge_18 : decode cX3_judge 18 = .ok (.ifCond .ge 70, 3) := by decide +kernel
theorem dX3_judge_21 : decode cX3_judge 21 = .ok (.aload_n 0, 1) := by decide +kernel
theorem dX3_judge_22 : decode cX3_judge 22 = .ok (.invokevirtual 110, 3) := by decide +kernel
theorem dX3_judge_25 : decode cX3_judge 25 = .ok (.ifCond .ne 63, 3) := by decide +kernel
theorem dX3_judge_28 : decode cX3_judge 28 = .ok (.aload_n 0, 1) := by decide +kernel
theorem dX3_judge_29 : decode cX3_judge 29 = .ok (.getfield 25, 3) := by decide +kernel
theorem dX3_judge_32 : decode cX3_judge 32 = .ok (.iload_n 2, 1) := by decide +kernel
theorem dX3_judge_33 : decode cX3_judge 33 = .ok (.iaload, 1) := by decide +kernel
theorem dX3_judge_34 : decode cX3_judge 34 = .ok (.bipush 7, 2) := by decide +kernel
theorem dX3_judge_36 : decode cX3_judge 36 = .ok (.if_icmp .ne 8, 3) := by decide +kernel
theorem dX3_judge_39 : decode cX3_judge 39 = .ok (.aload_n 0, 1) := by decide +kernel
theorem dX3_judge_40 : decode cX3_judge 40 = .ok (.iconst 5, 1) := by decide +kernel
theorem dX3_judge_41 : decode cX3_judge 41 = .ok (.invokevirtual 117, 3) := by decide +kernel
theorem dX3_judge_44 : decode cX3_judge 44 = .ok (.aload_n 0, 1) := by decide +kernel
theorem dX3_judge_45 : decode cX3_judge 45 = .ok (.getfield 25, 3) := by decide +kernel
theorem dX3_judge_48 : decode cX3_judge 48 = .ok (.iload_n 2, 1) := by decide +kernel
theorem dX3_judge_49 : decode cX3_judge 49 = .ok (.iaload, 1) := by decide +kernel
theorem dX3_judge_50 : decode cX3_judge 50 = .ok (.bipush 7, 2) := by decide +kernel
theorem dX3_judge_52 : decode cX3_judge 52 = .ok (.if_icmp .lt 6, 3) := by decide +kernel
theorem dX3_judge_55 : decode cX3_judge 55 = .ok (.goto 27, 3) := by decide +kernel
theorem dX3_judge_58 : decode cX3_judge 58 = .ok (.aload_n 0, 1) := by decide +kernel
theorem dX3_judge_59 : decode cX3_judge 59 = .ok (.aload_n 0, 1) := by decide +kernel
theorem dX3_judge_60 : decode cX3_judge 60 = .ok (.getfield 25, 3) := by decide +kernel
theorem dX3_judge_63 : decode cX3_judge 63 = .ok (.iload_n 2, 1) := by decide +kernel
theorem dX3_judge_64 : decode cX3_judge 64 = .ok (.iaload, 1) := by decide +kernel
theorem dX3_judge_65 : decode cX3_judge 65 = .ok (.invokevirtual 114, 3) := by decide +kernel
theorem dX3_judge_68 : decode cX3_judge 68 = .ok (.istore_n 3, 1) := by decide +kernel
theorem dX3_judge_69 : decode cX3_judge 69 = .ok (.aload_n 0, 1) := by decide +kernel
theorem dX3_judge_70 : decode cX3_judge 70 = .ok (.invokevirtual 110, 3) := by decide +kernel
theorem dX3_judge_73 : decode cX3_judge 73 = .ok (.ifCond .eq 7, 3) := by decide +kernel
theorem dX3_judge_76 : decode cX3_judge 76 = .ok (.iload_n 2, 1) := by decide +kernel
theorem dX3_judge_77 : decode cX3_judge 77 = .ok (.goto 4, 3) := by decide +kernel
theorem dX3_judge_80 : decode cX3_judge 80 = .ok (.iload_n 1, 1) := by decide +kernel
theorem dX3_judge_81 : decode cX3_judge 81 = .ok (.istore_n 1, 1) := by decide +kernel
theorem dX3_judge_82 : decode cX3_judge 82 = .ok (.iinc 2 1, 3) := by decide +kernel
theorem dX3_judge_85 : decode cX3_judge 85 = .ok (.goto (-76), 3) := by decide +kernel
theorem dX3_judge_88 : decode cX3_judge 88 = .ok (.aload_n 0, 1) := by decide +kernel
theorem dX3_judge_89 : decode cX3_judge 89 = .ok (.invokevirtual 138, 3) := by decide +kernel
theorem dX3_judge_92 : decode cX3_judge 92 = .ok (.aload_n 0, 1) := by decide +kernel
theorem dX3_judge_93 : decode cX3_judge 93 = .ok (.iconst 0, 1) := by decide +kernel
theorem dX3_judge_94 : decode cX3_judge 94 = .ok (.putfield 161, 3) := by decide +kernel
theorem dX3_judge_97 : decode cX3_judge 97 = .ok (.iload_n 1, 1) := by decide +kernel
theorem dX3_judge_98 : decode cX3_judge 98 = .ok (.ireturn, 1) := by decide +kernel
theorem dX3_drawn_0 : decode cX3_drawn 0 = .ok (.aload_n 0, 1) := by decide +kernel
theorem dX3_drawn_1 : decode cX3_drawn 1 = .ok (.aload_n 0, 1) := by decide +kernel
theorem dX3_drawn_2 : decode cX3_drawn 2 = .ok (.getfield 204, 3) := by decide +kernel
theorem dX3_drawn_5 : decode cX3_drawn 5 = .ok (.ldc 207, 2) := by decide +kernel
theorem dX3_drawn_7 : decode cX3_drawn 7 = .ok (.imul, 1) := by decide +kernel
theorem dX3_drawn_8 : decode cX3_drawn 8 = .ok (.ldc 208, 2) := by decide +kernel
theorem dX3_drawn_10 : decode cX3_drawn 10 = .ok (.iadd, 1) := by decide +kernel
theorem dX3_drawn_11 : decode cX3_drawn 11 = .ok (.putfield 204, 3) := by decide +kernel
theorem dX3_drawn_14 : decode cX3_drawn 14 = .ok (.aload_n 0, 1) := by decide +kernel
theorem dX3_drawn_15 : decode cX3_drawn 15 = .ok (.getfield 204, 3) := by decide +kernel
theorem dX3_drawn_18 : decode cX3_drawn 18 = .ok (.ldc 209, 2) := by decide +kernel
theorem dX3_drawn_20 : decode cX3_drawn 20 = .ok (.iand, 1) := by decide +kernel
theorem dX3_drawn_21 : decode cX3_drawn 21 = .ok (.sipush 256, 3) := by decide +kernel
theorem dX3_drawn_24 : decode cX3_drawn 24 = .ok (.idiv, 1) := by decide +kernel
theorem dX3_drawn_25 : decode cX3_drawn 25 = .ok (.iload_n 1, 1) := by decide +kernel
theorem dX3_drawn_26 : decode cX3_drawn 26 = .ok (.irem, 1) := by decide +kernel
theorem dX3_drawn_27 : decode cX3_drawn 27 = .ok (.ireturn, 1) := by decide +kernel
set_option maxRecDepth 20000 in
theorem ggX3_lots_X3_no : GoodIn wsX3_lots wsX3_no := goodIn_r _ [7, 8, 77, 78, 79, 80, 81, 82, 83, 84, 85, 86, 87, 88, 89, 90, 91, 92] (by decide +kernel) (by decide +kernel)
set_option maxRecDepth 20000 in
theorem gX3_lots_X3_no : GoodIn wsX3_lots (wsV RX3 42 RX3 yX3_no wsX3_no) := goodIn_app (goodIn_of _ (by decide +kernel)) ggX3_lots_X3_no
set_option maxRecDepth 20000 in
theorem ggX3_lots_X3_begins : GoodIn wsX3_lots wsX3_begins := goodIn_r _ [12, 2, 13, 14, 15, 6, 16, 77, 78, 79, 80, 81, 82, 83, 84, 85, 86, 87, 88, 89, 90, 91, 92] (by decide +kernel) (by decide +kernel)
set_option maxRecDepth 20000 in
theorem gX3_lots_X3_begins : GoodIn wsX3_lots (wsV RX3 135 RX3 yX3_begins wsX3_begins) := goodIn_app (goodIn_of _ (by decide +kernel)) ggX3_lots_X3_begins
set_option maxRecDepth 20000 in
theorem ggX3_lots_X3_ends : GoodIn wsX3_lots wsX3_ends := goodIn_r _ [20, 13, 2, 14, 15, 6, 16, 77, 78, 79, 80, 81, 82, 83, 84, 85, 86, 87, 88, 89, 90, 91, 92] (by decide +kernel) (by decide +kernel)
set_option maxRecDepth 20000 in
theorem gX3_lots_X3_ends : GoodIn wsX3_lots (wsV RX3 138 RX3 yX3_ends wsX3_ends) := goodIn_app (goodIn_of _ (by decide +kernel)) ggX3_lots_X3_ends
set_option maxRecDepth 20000 in
theorem ggX3_lots_X3_drawn : GoodIn wsX3_lots wsX3_drawn := goodIn_r _ [24, 1, 25, 26, 27, 77, 78, 79, 80, 81, 82, 83, 84, 85, 86, 87, 88, 89, 90, 91, 92] (by decide +kernel) (by decide +kernel)
set_option maxRecDepth 20000 in
theorem gX3_lots_X3_drawn : GoodIn wsX3_lots (wsV RX3 210 RX3 yX3_drawn wsX3_drawn) := goodIn_app (goodIn_of _ (by decide +kernel)) ggX3_lots_X3_drawn
set_option maxRecDepth 20000 in
theorem ggX3_lots_X3_isOff : GoodIn wsX3_lots wsX3_isOff := goodIn_r _ [31, 2, 77, 78, 79, 80, 81, 82, 83, 84, 85, 86, 87, 88, 89, 90, 91, 92] (by decide +kernel) (by decide +kernel)
set_option maxRecDepth 20000 in
theorem gX3_lots_X3_isOff : GoodIn wsX3_lots (wsV RX3 110 RX3 yX3_isOff wsX3_isOff) := goodIn_app (goodIn_of _ (by decide +kernel)) ggX3_lots_X3_isOff
set_option maxRecDepth 20000 in
theorem ggX3_lots_X3_tried : GoodIn wsX3_lots wsX3_tried := goodIn_r _ [35, 2, 36, 37, 38, 6, 39, 40, 41, 42, 43, 44, 45, 46, 47, 48, 49, 50, 51, 52, 53, 54, 55, 56, 57, 58, 59, 60, 61, 62, 63, 64, 65, 66, 67, 68, 69, 70, 71, 72, 73, 74, 75, 76, 77, 78, 79, 80, 81, 82, 83, 84, 85, 86, 87, 88, 89, 90, 91, 92] (by decide +kernel) (by decide +kernel)
set_option maxRecDepth 20000 in
theorem gX3_lots_X3_tried : GoodIn wsX3_lots (wsV RX3 114 RX3 yX3_tried wsX3_tried) := goodIn_app (goodIn_of _ (by decide +kernel)) ggX3_lots_X3_tried
theorem dX3_lots_0 : decode cX3_lots 0 = .ok (.iload_n 1, 1) := by decide +kernel
theorem dX3_lots_1 : decode cX3_lots 1 = .ok (.iconst 1, 1) := by decide +kernel
theorem dX3_lots_2 : decode cX3_lots 2 = .ok (.if_icmp .ge 10, 3) := by decide +kernel
theorem dX3_lots_5 : decode cX3_lots 5 = .ok (.aload_n 0, 1) := by decide +kernel
theorem dX3_lots_6 : decode cX3_lots 6 = .ok (.bipush (-4), 2) := by decide +kernel
theorem dX3_lots_8 : decode cX3_lots 8 = .ok (.invokevirtual 42, 3) := by decide +kernel
theorem dX3_lots_11 : decode cX3_lots 11 = .ok (.ireturn, 1) := by decide +kernel
theorem dX3_lots_12 : decode cX3_lots 12 = .ok (.iload_n 1, 1) := by decide +kernel
theorem dX3_lots_13 : decode cX3_lots 13 = .ok (.bipush 20, 2) := by decide +kernel
theorem dX3_lots_15 : decode cX3_lots 15 = .ok (.if_icmp .le 10, 3) := by decide +kernel
theorem dX3_lots_18 : decode cX3_lots 18 = .ok (.aload_n 0, 1) := by decide +kernel
theorem dX3_lots_19 : decode cX3_lots 19 = .ok (.bipush (-6), 2) := by decide +kernel
theorem dX3_lots_21 : decode cX3_lots 21 = .ok (.invokevirtual 42, 3) := by decide +kernel
theorem dX3_lots_24 : decode cX3_lots 24 = .ok (.ireturn, 1) := by decide +kernel
theorem dX3_lots_25 : decode cX3_lots 25 = .ok (.aload_n 0, 1) := by decide +kernel
theorem dX3_lots_26 : decode cX3_lots 26 = .ok (.iload_n 2, 1) := by decide +kernel
theorem dX3_lots_27 : decode cX3_lots 27 = .ok (.putfield 204, 3) := by decide +kernel
theorem dX3_lots_30 : decode cX3_lots 30 = .ok (.aload_n 0, 1) := by decide +kernel
theorem dX3_lots_31 : decode cX3_lots 31 = .ok (.invokevirtual 135, 3) := by decide +kernel
theorem dX3_lots_34 : decode cX3_lots 34 = .ok (.iconst 0, 1) := by decide +kernel
theorem dX3_lots_35 : decode cX3_lots 35 = .ok (.istore_n 3, 1) := by decide +kernel
theorem dX3_lots_36 : decode cX3_lots 36 = .ok (.iconst 0, 1) := by decide +kernel
theorem dX3_lots_37 : decode cX3_lots 37 = .ok (.istore 4, 2) := by decide +kernel
theorem dX3_lots_39 : decode cX3_lots 39 = .ok (.iload 4, 2) := by decide +kernel
theorem dX3_lots_41 : decode cX3_lots 41 = .ok (.iload_n 1, 1) := by decide +kernel
theorem dX3_lots_42 : decode cX3_lots 42 = .ok (.if_icmp .ge 78, 3) := by decide +kernel
theorem dX3_lots_45 : decode cX3_lots 45 = .ok (.aload_n 0, 1) := by decide +kernel
theorem dX3_lots_46 : decode cX3_lots 46 = .ok (.invokevirtual 138, 3) := by decide +kernel
theorem dX3_lots_49 : decode cX3_lots 49 = .ok (.aload_n 0, 1) := by decide +kernel
theorem dX3_lots_50 : decode cX3_lots 50 = .ok (.getfield 9, 3) := by decide +kernel
theorem dX3_lots_53 : decode cX3_lots 53 = .ok (.iconst 4, 1) := by decide +kernel
theorem dX3_lots_54 : decode cX3_lots 54 = .ok (.aload_n 0, 1) := by decide +kernel
theorem dX3_lots_55 : decode cX3_lots 55 = .ok (.bipush 31, 2) := by decide +kernel
theorem dX3_lots_57 : decode cX3_lots 57 = .ok (.invokevirtual 210, 3) := by decide +kernel
theorem dX3_lots_60 : decode cX3_lots 60 = .ok (.iastore, 1) := by decide +kernel
theorem dX3_lots_61 : decode cX3_lots 61 = .ok (.aload_n 0, 1) := by decide +kernel
theorem dX3_lots_62 : decode cX3_lots 62 = .ok (.getfield 9, 3) := by decide +kernel
theorem dX3_lots_65 : decode cX3_lots 65 = .ok (.bipush 9, 2) := by decide +kernel
theorem dX3_lots_67 : decode cX3_lots 67 = .ok (.iconst 0, 1) := by decide +kernel
theorem dX3_lots_68 : decode cX3_lots 68 = .ok (.iastore, 1) := by decide +kernel
theorem dX3_lots_69 : decode cX3_lots 69 = .ok (.iconst 0, 1) := by decide +kernel
theorem dX3_lots_70 : decode cX3_lots 70 = .ok (.istore 5, 2) := by decide +kernel
theorem dX3_lots_72 : decode cX3_lots 72 = .ok (.iload 5, 2) := by decide +kernel
theorem dX3_lots_74 : decode cX3_lots 74 = .ok (.bipush 12, 2) := by decide +kernel
theorem dX3_lots_76 : decode cX3_lots 76 = .ok (.if_icmp .ge 28, 3) := by decide +kernel
theorem dX3_lots_79 : decode cX3_lots 79 = .ok (.aload_n 0, 1) := by decide +kernel
theorem dX3_lots_80 : decode cX3_lots 80 = .ok (.invokevirtual 110, 3) := by decide +kernel
theorem dX3_lots_83 : decode cX3_lots 83 = .ok (.ifCond .ne 21, 3) := by decide +kernel
theorem dX3_lots_86 : decode cX3_lots 86 = .ok (.aload_n 0, 1) := by decide +kernel
theorem dX3_lots_87 : decode cX3_lots 87 = .ok (.aload_n 0, 1) := by decide +kernel
theorem dX3_lots_88 : decode cX3_lots 88 = .ok (.bipush 6, 2) := by decide +kernel
theorem dX3_lots_90 : decode cX3_lots 90 = .ok (.invokevirtual 210, 3) := by decide +kernel
theorem dX3_lots_93 : decode cX3_lots 93 = .ok (.invokevirtual 114, 3) := by decide +kernel
theorem dX3_lots_96 : decode cX3_lots 96 = .ok (.istore 6, 2) := by decide +kernel
theorem dX3_lots_98 : decode cX3_lots 98 = .ok (.iinc 5 1, 3) := by decide +kernel
theorem dX3_lots_101 : decode cX3_lots 101 = .ok (.goto (-29), 3) := by decide +kernel
theorem dX3_lots_104 : decode cX3_lots 104 = .ok (.iload_n 3, 1) := by decide +kernel
theorem dX3_lots_105 : decode cX3_lots 105 = .ok (.aload_n 0, 1) := by decide +kernel
theorem dX3_lots_106 : decode cX3_lots 106 = .ok (.getfield 9, 3) := by decide +kernel
theorem dX3_lots_109 : decode cX3_lots 109 = .ok (.bipush 9, 2) := by decide +kernel
theorem dX3_lots_111 : decode cX3_lots 111 = .ok (.iaload, 1) := by decide +kernel
theorem dX3_lots_112 : decode cX3_lots 112 = .ok (.iadd, 1) := by decide +kernel
theorem dX3_lots_113 : decode cX3_lots 113 = .ok (.istore_n 3, 1) := by decide +kernel
theorem dX3_lots_114 : decode cX3_lots 114 = .ok (.iinc 4 1, 3) := by decide +kernel
theorem dX3_lots_117 : decode cX3_lots 117 = .ok (.goto (-78), 3) := by decide +kernel
theorem dX3_lots_120 : decode cX3_lots 120 = .ok (.aload_n 0, 1) := by decide +kernel
theorem dX3_lots_121 : decode cX3_lots 121 = .ok (.invokevirtual 138, 3) := by decide +kernel
theorem dX3_lots_124 : decode cX3_lots 124 = .ok (.iload_n 3, 1) := by decide +kernel
theorem dX3_lots_125 : decode cX3_lots 125 = .ok (.ireturn, 1) := by decide +kernel
set_option maxRecDepth 20000 in
theorem ggX3_image_X3_lays : GoodIn wsX3_image wsX3_lays := goodIn_r _ [7] (by decide +kernel) (by decide +kernel)
set_option maxRecDepth 20000 in
theorem gX3_image_X3_lays : GoodIn wsX3_image (va_wsS RX3 37 yX3_lays wsX3_lays) := goodIn_app (goodIn_of _ (by decide +kernel)) ggX3_image_X3_lays
theorem dX3_image_0 : decode cX3_image 0 = .ok (.aload_n 0, 1) := by decide +kernel
theorem dX3_image_1 : decode cX3_image 1 = .ok (.getfield 9, 3) := by decide +kernel
theorem dX3_image_4 : decode cX3_image 4 = .ok (.aload_n 0, 1) := by decide +kernel
theorem dX3_image_5 : decode cX3_image 5 = .ok (.getfield 13, 3) := by decide +kernel
theorem dX3_image_8 : decode cX3_image 8 = .ok (.invokestatic 37, 3) := by decide +kernel
theorem dX3_image_11 : decode cX3_image 11 = .ok (.aload_n 0, 1) := by decide +kernel
theorem dX3_image_12 : decode cX3_image 12 = .ok (.iconst 1, 1) := by decide +kernel
theorem dX3_image_13 : decode cX3_image 13 = .ok (.putfield 213, 3) := by decide +kernel
theorem dX3_image_16 : decode cX3_image 16 = .ok (.aload_n 0, 1) := by decide +kernel
theorem dX3_image_17 : decode cX3_image 17 = .ok (.getfield 9, 3) := by decide +kernel
theorem dX3_image_20 : decode cX3_image 20 = .ok (.bipush 8, 2) := by decide +kernel
theorem dX3_image_22 : decode cX3_image 22 = .ok (.iaload, 1) := by decide +kernel
theorem dX3_image_23 : decode cX3_image 23 = .ok (.ireturn, 1) := by decide +kernel
set_option maxRecDepth 20000 in
theorem ggX3_on_X3_no : GoodIn wsX3_on wsX3_no := goodIn_r _ [8, 9, 13, 14, 15, 16, 17, 18, 19, 20, 21, 22, 23, 24, 25, 26, 27, 28] (by decide +kernel) (by decide +kernel)
set_option maxRecDepth 20000 in
theorem gX3_on_X3_no : GoodIn wsX3_on (wsV RX3 42 RX3 yX3_no wsX3_no) := goodIn_app (goodIn_of _ (by decide +kernel)) ggX3_on_X3_no
set_option maxRecDepth 20000 in
theorem ggX3_on_X3_lays : GoodIn wsX3_on wsX3_lays := goodIn_r _ [12] (by decide +kernel) (by decide +kernel)
set_option maxRecDepth 20000 in
theorem gX3_on_X3_lays : GoodIn wsX3_on (va_wsS RX3 37 yX3_lays wsX3_lays) := goodIn_app (goodIn_of _ (by decide +kernel)) ggX3_on_X3_lays
theorem dX3_on_0 : decode cX3_on 0 = .ok (.aload_n 0, 1) := by decide +kernel
theorem dX3_on_1 : decode cX3_on 1 = .ok (.getfield 213, 3) := by decide +kernel
theorem dX3_on_4 : decode cX3_on 4 = .ok (.ifCond .ne 10, 3) := by decide +kernel
theorem dX3_on_7 : decode cX3_on 7 = .ok (.aload_n 0, 1) := by decide +kernel
theorem dX3_on_8 : decode cX3_on 8 = .ok (.bipush (-3), 2) := by decide +kernel
theorem dX3_on_10 : decode cX3_on 10 = .ok (.invokevirtual 42, 3) := by decide +kernel
theorem dX3_on_13 : decode cX3_on 13 = .ok (.ireturn, 1) := by decide +kernel
theorem dX3_on_14 : decode cX3_on 14 = .ok (.aload_n 0, 1) := by decide +kernel
theorem dX3_on_15 : decode cX3_on 15 = .ok (.getfield 13, 3) := by decide +kernel
theorem dX3_on_18 : decode cX3_on 18 = .ok (.aload_n 0, 1) := by decide +kernel
theorem dX3_on_19 : decode cX3_on 19 = .ok (.getfield 9, 3) := by decide +kernel
theorem dX3_on_22 : decode cX3_on 22 = .ok (.invokestatic 37, 3) := by decide +kernel
theorem dX3_on_25 : decode cX3_on 25 = .ok (.aload_n 0, 1) := by decide +kernel
theorem dX3_on_26 : decode cX3_on 26 = .ok (.getfield 9, 3) := by decide +kernel
theorem dX3_on_29 : decode cX3_on 29 = .ok (.bipush 8, 2) := by decide +kernel
theorem dX3_on_31 : decode cX3_on 31 = .ok (.iaload, 1) := by decide +kernel
theorem dX3_on_32 : decode cX3_on 32 = .ok (.ireturn, 1) := by decide +kernel
set_option maxRecDepth 20000 in
theorem ggX3_count_X3_isIn : GoodIn wsX3_count wsX3_isIn := goodIn_r _ [8] (by decide +kernel) (by decide +kernel)
set_option maxRecDepth 20000 in
theorem gX3_count_X3_isIn : GoodIn wsX3_count (va_wsS RX3 99 yX3_isIn wsX3_isIn) := goodIn_app (goodIn_of _ (by decide +kernel)) ggX3_count_X3_isIn
theorem dX3_count_0 : decode cX3_count 0 = .ok (.iload_n 1, 1) := by decide +kernel
theorem dX3_count_1 : decode cX3_count 1 = .ok (.bipush 11, 2) := by decide +kernel
theorem dX3_count_3 : decode cX3_count 3 = .ok (.bipush 16, 2) := by decide +kernel
theorem dX3_count_5 : decode cX3_count 5 = .ok (.invokestatic 99, 3) := by decide +kernel
theorem dX3_count_8 : decode cX3_count 8 = .ok (.ifCond .eq 13, 3) := by decide +kernel
theorem dX3_count_11 : decode cX3_count 11 = .ok (.aload_n 0, 1) := by decide +kernel
theorem dX3_count_12 : decode cX3_count 12 = .ok (.getfield 28, 3) := by decide +kernel
theorem dX3_count_15 : decode cX3_count 15 = .ok (.iload_n 1, 1) := by decide +kernel
theorem dX3_count_16 : decode cX3_count 16 = .ok (.bipush 10, 2) := by decide +kernel
theorem dX3_count_18 : decode cX3_count 18 = .ok (.isub, 1) := by decide +kernel
theorem dX3_count_19 : decode cX3_count 19 = .ok (.iaload, 1) := by decide +kernel
theorem dX3_count_20 : decode cX3_count 20 = .ok (.ireturn, 1) := by decide +kernel
theorem dX3_count_21 : decode cX3_count 21 = .ok (.iload_n 1, 1) := by decide +kernel
theorem dX3_count_22 : decode cX3_count 22 = .ok (.tableswitch 170 0 17 #[86, 93, 100, 107, 114, 122, 130, 138, 145, 150, 155, 170, 170, 170, 170, 170, 170, 163], 86) := by decide +kernel
theorem dX3_count_108 : decode cX3_count 108 = .ok (.aload_n 0, 1) := by decide +kernel
theorem dX3_count_109 : decode cX3_count 109 = .ok (.getfield 9, 3) := by decide +kernel
theorem dX3_count_112 : decode cX3_count 112 = .ok (.iconst 0, 1) := by decide +kernel
theorem dX3_count_113 : decode cX3_count 113 = .ok (.iaload, 1) := by decide +kernel
theorem dX3_count_114 : decode cX3_count 114 = .ok (.ireturn, 1) := by decide +kernel
theorem dX3_count_115 : decode cX3_count 115 = .ok (.aload_n 0, 1) := by decide +kernel
theorem dX3_count_116 : decode cX3_count 116 = .ok (.getfield 9, 3) := by decide +kernel
theorem dX3_count_119 : decode cX3_count 119 = .ok (.iconst 3, 1) := by decide +kernel
theorem dX3_count_120 : decode cX3_count 120 = .ok (.iaload, 1) := by decide +kernel
theorem dX3_count_121 : decode cX3_count 121 = .ok (.ireturn, 1) := by decide +kernel
theorem dX3_count_122 : decode cX3_count 122 = .ok (.aload_n 0, 1) := by decide +kernel
theorem dX3_count_123 : decode cX3_count 123 = .ok (.getfield 9, 3) := by decide +kernel
theorem dX3_count_126 : decode cX3_count 126 = .ok (.iconst 4, 1) := by decide +kernel
theorem dX3_count_127 : decode cX3_count 127 = .ok (.iaload, 1) := by decide +kernel
theorem dX3_count_128 : decode cX3_count 128 = .ok (.ireturn, 1) := by decide +kernel
theorem dX3_count_129 : decode cX3_count 129 = .ok (.aload_n 0, 1) := by decide +kernel
theorem dX3_count_130 : decode cX3_count 130 = .ok (.getfield 9, 3) := by decide +kernel
theorem dX3_count_133 : decode cX3_count 133 = .ok (.iconst 5, 1) := by decide +kernel
theorem dX3_count_134 : decode cX3_count 134 = .ok (.iaload, 1) := by decide +kernel
theorem dX3_count_135 : decode cX3_count 135 = .ok (.ireturn, 1) := by decide +kernel
theorem dX3_count_136 : decode cX3_count 136 = .ok (.aload_n 0, 1) := by decide +kernel
theorem dX3_count_137 : decode cX3_count 137 = .ok (.getfield 9, 3) := by decide +kernel
theorem dX3_count_140 : decode cX3_count 140 = .ok (.bipush 6, 2) := by decide +kernel
theorem dX3_count_142 : decode cX3_count 142 = .ok (.iaload, 1) := by decide +kernel
theorem dX3_count_143 : decode cX3_count 143 = .ok (.ireturn, 1) := by decide +kernel
theorem dX3_count_144 : decode cX3_count 144 = .ok (.aload_n 0, 1) := by decide +kernel
theorem dX3_count_145 : decode cX3_count 145 = .ok (.getfield 9, 3) := by decide +kernel
theorem dX3_count_148 : decode cX3_count 148 = .ok (.bipush 8, 2) := by decide +kernel
theorem dX3_count_150 : decode cX3_count 150 = .ok (.iaload, 1) := by decide +kernel
theorem dX3_count_151 : decode cX3_count 151 = .ok (.ireturn, 1) := by decide +kernel
theorem dX3_count_152 : decode cX3_count 152 = .ok (.aload_n 0, 1) := by decide +kernel
theorem dX3_count_153 : decode cX3_count 153 = .ok (.getfield 9, 3) := by decide +kernel
theorem dX3_count_156 : decode cX3_count 156 = .ok (.bipush 9, 2) := by decide +kernel
theorem dX3_count_158 : decode cX3_count 158 = .ok (.iaload, 1) := by decide +kernel
theorem dX3_count_159 : decode cX3_count 159 = .ok (.ireturn, 1) := by decide +kernel
theorem dX3_count_160 : decode cX3_count 160 = .ok (.aload_n 0, 1) := by decide +kernel
theorem dX3_count_161 : decode cX3_count 161 = .ok (.getfield 9, 3) := by decide +kernel
theorem dX3_count_164 : decode cX3_count 164 = .ok (.iconst 1, 1) := by decide +kernel
theorem dX3_count_165 : decode cX3_count 165 = .ok (.iaload, 1) := by decide +kernel
theorem dX3_count_166 : decode cX3_count 166 = .ok (.ireturn, 1) := by decide +kernel
theorem dX3_count_167 : decode cX3_count 167 = .ok (.aload_n 0, 1) := by decide +kernel
theorem dX3_count_168 : decode cX3_count 168 = .ok (.getfield 161, 3) := by decide +kernel
theorem dX3_count_171 : decode cX3_count 171 = .ok (.ireturn, 1) := by decide +kernel
theorem dX3_count_172 : decode cX3_count 172 = .ok (.aload_n 0, 1) := by decide +kernel
theorem dX3_count_173 : decode cX3_count 173 = .ok (.getfield 88, 3) := by decide +kernel
theorem dX3_count_176 : decode cX3_count 176 = .ok (.ireturn, 1) := by decide +kernel
theorem dX3_count_177 : decode cX3_count 177 = .ok (.aload_n 0, 1) := by decide +kernel
theorem dX3_count_178 : decode cX3_count 178 = .ok (.getfield 9, 3) := by decide +kernel
theorem dX3_count_181 : decode cX3_count 181 = .ok (.bipush 7, 2) := by decide +kernel
theorem dX3_count_183 : decode cX3_count 183 = .ok (.iaload, 1) := by decide +kernel
theorem dX3_count_184 : decode cX3_count 184 = .ok (.ireturn, 1) := by decide +kernel
theorem dX3_count_185 : decode cX3_count 185 = .ok (.aload_n 0, 1) := by decide +kernel
theorem dX3_count_186 : decode cX3_count 186 = .ok (.getfield 9, 3) := by decide +kernel
theorem dX3_count_189 : decode cX3_count 189 = .ok (.iconst 2, 1) := by decide +kernel
theorem dX3_count_190 : decode cX3_count 190 = .ok (.iaload, 1) := by decide +kernel
theorem dX3_count_191 : decode cX3_count 191 = .ok (.ireturn, 1) := by decide +kernel
theorem dX3_count_192 : decode cX3_count 192 = .ok (.bipush (-9), 2) := by decide +kernel
theorem dX3_count_194 : decode cX3_count 194 = .ok (.ireturn, 1) := by decide +kernel
