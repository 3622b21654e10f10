/-! the names of the law's helpers -/
theorem dL_hand_25 : decode cL_hand 25 = .ok (.iconst 3, 1) := by decide +kernel
theorem dL_hand_26 : decode cL_hand 26 = .ok (.ishr, 1) := by decide +kernel
theorem dL_hand_27 : decode cL_hand 27 = .ok (.bipush 63, 2) := by decide +kernel
theorem dL_hand_29 : decode cL_hand 29 = .ok (.iand, 1) := by decide +kernel
theorem dL_hand_30 : decode cL_hand 30 = .ok (.iadd, 1) := by decide +kernel
theorem dL_hand_31 : decode cL_hand 31 = .ok (.iastore, 1) := by decide +kernel
theorem dL_hand_32 : decode cL_hand 32 = .ok (.aload_n 1, 1) := by decide +kernel
theorem dL_hand_33 : decode cL_hand 33 = .ok (.iconst 2, 1) := by decide +kernel
theorem dL_hand_34 : decode cL_hand 34 = .ok (.iconst 1, 1) := by decide +kernel
theorem dL_hand_35 : decode cL_hand 35 = .ok (.iload 4, 2) := by decide +kernel
theorem dL_hand_37 : decode cL_hand 37 = .ok (.bipush 9, 2) := by decide +kernel
theorem dL_hand_39 : decode cL_hand 39 = .ok (.ishr, 1) := by decide +kernel
theorem dL_hand_40 : decode cL_hand 40 = .ok (.bipush 15, 2) := by decide +kernel
theorem dL_hand_42 : decode cL_hand 42 = .ok (.iand, 1) := by decide +kernel
theorem dL_hand_43 : decode cL_hand 43 = .ok (.bipush 9, 2) := by decide +kernel
theorem dL_hand_45 : decode cL_hand 45 = .ok (.irem, 1) := by decide +kernel
theorem dL_hand_46 : decode cL_hand 46 = .ok (.iadd, 1) := by decide +kernel
theorem dL_hand_47 : decode cL_hand 47 = .ok (.iastore, 1) := by decide +kernel
theorem dL_hand_48 : decode cL_hand 48 = .ok (.iconst 1, 1) := by decide +kernel
theorem dL_hand_49 : decode cL_hand 49 = .ok (.istore 5, 2) := by decide +kernel
theorem dL_hand_51 : decode cL_hand 51 = .ok (.iconst 0, 1) := by decide +kernel
theorem dL_hand_52 : decode cL_hand 52 = .ok (.istore 6, 2) := by decide +kernel
theorem dL_hand_54 : decode cL_hand 54 = .ok (.iload 6, 2) := by decide +kernel
theorem dL_hand_56 : decode cL_hand 56 = .ok (.aload_n 1, 1) := by decide +kernel
theorem dL_hand_57 : decode cL_hand 57 = .ok (.iconst 0, 1) := by decide +kernel
theorem dL_hand_58 : decode cL_hand 58 = .ok (.iaload, 1) := by decide +kernel
theorem dL_hand_59 : decode cL_hand 59 = .ok (.if_icmp .ge 146, 3) := by decide +kernel
theorem dL_hand_62 : decode cL_hand 62 = .ok (.aload_n 2, 1) := by decide +kernel
theorem dL_hand_63 : decode cL_hand 63 = .ok (.iload_n 3, 1) := by decide +kernel
theorem dL_hand_64 : decode cL_hand 64 = .ok (.iconst 1, 1) := by decide +kernel
theorem dL_hand_65 : decode cL_hand 65 = .ok (.iadd, 1) := by decide +kernel
theorem dL_hand_66 : decode cL_hand 66 = .ok (.iload 6, 2) := by decide +kernel
theorem dL_hand_68 : decode cL_hand 68 = .ok (.iadd, 1) := by decide +kernel
theorem dL_hand_69 : decode cL_hand 69 = .ok (.invokestatic 21, 3) := by decide +kernel
theorem dL_hand_72 : decode cL_hand 72 = .ok (.istore 7, 2) := by decide +kernel
theorem dL_hand_74 : decode cL_hand 74 = .ok (.aload_n 1, 1) := by decide +kernel
theorem dL_hand_75 : decode cL_hand 75 = .ok (.bipush 10, 2) := by decide +kernel
theorem dL_hand_77 : decode cL_hand 77 = .ok (.iload 6, 2) := by decide +kernel
theorem dL_hand_79 : decode cL_hand 79 = .ok (.iadd, 1) := by decide +kernel
theorem dL_hand_80 : decode cL_hand 80 = .ok (.iload 7, 2) := by decide +kernel
theorem dL_hand_82 : decode cL_hand 82 = .ok (.bipush 7, 2) := by decide +kernel
theorem dL_hand_84 : decode cL_hand 84 = .ok (.iand, 1) := by decide +kernel
theorem dL_hand_85 : decode cL_hand 85 = .ok (.bipush 6, 2) := by decide +kernel
theorem dL_hand_87 : decode cL_hand 87 = .ok (.irem, 1) := by decide +kernel
theorem dL_hand_88 : decode cL_hand 88 = .ok (.iastore, 1) := by decide +kernel
theorem dL_hand_89 : decode cL_hand 89 = .ok (.aload_n 1, 1) := by decide +kernel
theorem dL_hand_90 : decode cL_hand 90 = .ok (.bipush 16, 2) := by decide +kernel
theorem dL_hand_92 : decode cL_hand 92 = .ok (.iload 6, 2) := by decide +kernel
theorem dL_hand_94 : decode cL_hand 94 = .ok (.iadd, 1) := by decide +kernel
theorem dL_hand_95 : decode cL_hand 95 = .ok (.iload 7, 2) := by decide +kernel
theorem dL_hand_97 : decode cL_hand 97 = .ok (.iconst 3, 1) := by decide +kernel
theorem dL_hand_98 : decode cL_hand 98 = .ok (.ishr, 1) := by decide +kernel
theorem dL_hand_99 : decode cL_hand 99 = .ok (.bipush 7, 2) := by decide +kernel
theorem dL_hand_101 : decode cL_hand 101 = .ok (.iand, 1) := by decide +kernel
theorem dL_hand_102 : decode cL_hand 102 = .ok (.ifCond .ne 19, 3) := by decide +kernel
theorem dL_hand_105 : decode cL_hand 105 = .ok (.iload 7, 2) := by decide +kernel
theorem dL_hand_107 : decode cL_hand 107 = .ok (.bipush 6, 2) := by decide +kernel
theorem dL_hand_109 : decode cL_hand 109 = .ok (.ishr, 1) := by decide +kernel
theorem dL_hand_110 : decode cL_hand 110 = .ok (.sipush 255, 3) := by decide +kernel
theorem dL_hand_113 : decode cL_hand 113 = .ok (.iand, 1) := by decide +kernel
theorem dL_hand_114 : decode cL_hand 114 = .ok (.sipush 241, 3) := by decide +kernel
theorem dL_hand_117 : decode cL_hand 117 = .ok (.irem, 1) := by decide +kernel
theorem dL_hand_118 : decode cL_hand 118 = .ok (.goto 18, 3) := by decide +kernel
theorem dL_hand_121 : decode cL_hand 121 = .ok (.aload_n 1, 1) := by decide +kernel
theorem dL_hand_122 : decode cL_hand 122 = .ok (.iconst 1, 1) := by decide +kernel
theorem dL_hand_123 : decode cL_hand 123 = .ok (.iaload, 1) := by decide +kernel
theorem dL_hand_124 : decode cL_hand 124 = .ok (.bipush 22, 2) := by decide +kernel
theorem dL_hand_126 : decode cL_hand 126 = .ok (.isub, 1) := by decide +kernel
theorem dL_hand_127 : decode cL_hand 127 = .ok (.iload 7, 2) := by decide +kernel
theorem dL_hand_129 : decode cL_hand 129 = .ok (.bipush 6, 2) := by decide +kernel
theorem dL_hand_131 : decode cL_hand 131 = .ok (.ishr, 1) := by decide +kernel
theorem dL_hand_132 : decode cL_hand 132 = .ok (.bipush 31, 2) := by decide +kernel
theorem dL_hand_134 : decode cL_hand 134 = .ok (.iand, 1) := by decide +kernel
theorem dL_hand_135 : decode cL_hand 135 = .ok (.iadd, 1) := by decide +kernel
theorem dL_hand_136 : decode cL_hand 136 = .ok (.iastore, 1) := by decide +kernel
theorem dL_hand_137 : decode cL_hand 137 = .ok (.iload 5, 2) := by decide +kernel
theorem dL_hand_139 : decode cL_hand 139 = .ok (.aload_n 0, 1) := by decide +kernel
theorem dL_hand_140 : decode cL_hand 140 = .ok (.bipush 112, 2) := by decide +kernel
theorem dL_hand_142 : decode cL_hand 142 = .ok (.invokestatic 15, 3) := by decide +kernel
theorem dL_hand_145 : decode cL_hand 145 = .ok (.ifCond .eq 50, 3) := by decide +kernel
theorem dL_hand_148 : decode cL_hand 148 = .ok (.aload_n 0, 1) := by decide +kernel
theorem dL_hand_149 : decode cL_hand 149 = .ok (.ldc 25, 2) := by decide +kernel
theorem dL_hand_151 : decode cL_hand 151 = .ok (.aload_n 1, 1) := by decide +kernel
theorem dL_hand_152 : decode cL_hand 152 = .ok (.bipush 10, 2) := by decide +kernel
theorem dL_hand_154 : decode cL_hand 154 = .ok (.iload 6, 2) := by decide +kernel
theorem dL_hand_156 : decode cL_hand 156 = .ok (.iadd, 1) := by decide +kernel
theorem dL_hand_157 : decode cL_hand 157 = .ok (.iaload, 1) := by decide +kernel
theorem dL_hand_158 : decode cL_hand 158 = .ok (.invokevirtual 27, 3) := by decide +kernel
theorem dL_hand_161 : decode cL_hand 161 = .ok (.invokestatic 15, 3) := by decide +kernel
theorem dL_hand_164 : decode cL_hand 164 = .ok (.ifCond .eq 31, 3) := by decide +kernel
theorem dL_hand_167 : decode cL_hand 167 = .ok (.aload_n 0, 1) := by decide +kernel
theorem dL_hand_168 : decode cL_hand 168 = .ok (.aload_n 1, 1) := by decide +kernel
theorem dL_hand_169 : decode cL_hand 169 = .ok (.bipush 16, 2) := by decide +kernel
theorem dL_hand_171 : decode cL_hand 171 = .ok (.iload 6, 2) := by decide +kernel
theorem dL_hand_173 : decode cL_hand 173 = .ok (.iadd, 1) := by decide +kernel
theorem dL_hand_174 : decode cL_hand 174 = .ok (.iaload, 1) := by decide +kernel
theorem dL_hand_175 : decode cL_hand 175 = .ok (.iconst 3, 1) := by decide +kernel
theorem dL_hand_176 : decode cL_hand 176 = .ok (.invokestatic 33, 3) := by decide +kernel
theorem dL_hand_179 : decode cL_hand 179 = .ok (.ifCond .eq 16, 3) := by decide +kernel
theorem dL_hand_182 : decode cL_hand 182 = .ok (.aload_n 0, 1) := by decide +kernel
theorem dL_hand_183 : decode cL_hand 183 = .ok (.bipush 59, 2) := by decide +kernel
theorem dL_hand_185 : decode cL_hand 185 = .ok (.invokestatic 15, 3) := by decide +kernel
theorem dL_hand_188 : decode cL_hand 188 = .ok (.ifCond .eq 7, 3) := by decide +kernel
theorem dL_hand_191 : decode cL_hand 191 = .ok (.iconst 1, 1) := by decide +kernel
theorem dL_hand_192 : decode cL_hand 192 = .ok (.goto 4, 3) := by decide +kernel
theorem dL_hand_195 : decode cL_hand 195 = .ok (.iconst 0, 1) := by decide +kernel
theorem dL_hand_196 : decode cL_hand 196 = .ok (.iand, 1) := by decide +kernel
theorem dL_hand_197 : decode cL_hand 197 = .ok (.istore 5, 2) := by decide +kernel
theorem dL_hand_199 : decode cL_hand 199 = .ok (.iinc 6 1, 3) := by decide +kernel
theorem dL_hand_202 : decode cL_hand 202 = .ok (.goto (-148), 3) := by decide +kernel
