theorem dX3_good_109 : decode cX3_good 109 = .ok (.iload_n 1, 1) := by decide +kernel
theorem dX3_good_110 : decode cX3_good 110 = .ok (.iconst 0, 1) := by decide +kernel
theorem dX3_good_111 : decode cX3_good 111 = .ok (.bipush 15, 2) := by decide +kernel
theorem dX3_good_113 : decode cX3_good 113 = .ok (.invokestatic 35, 3) := by decide +kernel
theorem dX3_good_116 : decode cX3_good 116 = .ok (.ifCond .eq 17, 3) := by decide +kernel
theorem dX3_good_119 : decode cX3_good 119 = .ok (.iload_n 2, 1) := by decide +kernel
theorem dX3_good_120 : decode cX3_good 120 = .ok (.iconst 0, 1) := by decide +kernel
theorem dX3_good_121 : decode cX3_good 121 = .ok (.bipush 7, 2) := by decide +kernel
theorem dX3_good_123 : decode cX3_good 123 = .ok (.invokestatic 35, 3) := by decide +kernel
theorem dX3_good_126 : decode cX3_good 126 = .ok (.ifCond .eq 7, 3) := by decide +kernel
theorem dX3_good_129 : decode cX3_good 129 = .ok (.iconst 1, 1) := by decide +kernel
theorem dX3_good_130 : decode cX3_good 130 = .ok (.goto 4, 3) := by decide +kernel
theorem dX3_good_133 : decode cX3_good 133 = .ok (.iconst 0, 1) := by decide +kernel
theorem dX3_good_134 : decode cX3_good 134 = .ok (.ireturn, 1) := by decide +kernel
theorem dX3_good_135 : decode cX3_good 135 = .ok (.iconst 0, 1) := by decide +kernel
theorem dX3_good_136 : decode cX3_good 136 = .ok (.ireturn, 1) := by decide +kernel
theorem dX3_in_0 : decode cX3_in 0 = .ok (.iload_n 0, 1) := by decide +kernel
theorem dX3_in_1 : decode cX3_in 1 = .ok (.iload_n 1, 1) := by decide +kernel
theorem dX3_in_2 : decode cX3_in 2 = .ok (.if_icmp .lt 12, 3) := by decide +kernel
theorem dX3_in_5 : decode cX3_in 5 = .ok (.iload_n 0, 1) := by decide +kernel
theorem dX3_in_6 : decode cX3_in 6 = .ok (.iload_n 2, 1) := by decide +kernel
theorem dX3_in_7 : decode cX3_in 7 = .ok (.if_icmp .gt 7, 3) := by decide +kernel
theorem dX3_in_10 : decode cX3_in 10 = .ok (.iconst 1, 1) := by decide +kernel
theorem dX3_in_11 : decode cX3_in 11 = .ok (.goto 4, 3) := by decide +kernel
theorem dX3_in_14 : decode cX3_in 14 = .ok (.iconst 0, 1) := by decide +kernel
theorem dX3_in_15 : decode cX3_in 15 = .ok (.ireturn, 1) := by decide +kernel
theorem dX3_remove_0 : decode cX3_remove 0 = .ok (.aload_n 0, 1) := by decide +kernel
theorem dX3_remove_1 : decode cX3_remove 1 = .ok (.iconst 0, 1) := by decide +kernel
theorem dX3_remove_2 : decode cX3_remove 2 = .ok (.putfield 31, 3) := by decide +kernel
theorem dX3_remove_5 : decode cX3_remove 5 = .ok (.iload_n 1, 1) := by decide +kernel
theorem dX3_remove_6 : decode cX3_remove 6 = .ok (.ifCond .lt 11, 3) := by decide +kernel
theorem dX3_remove_9 : decode cX3_remove 9 = .ok (.iload_n 1, 1) := by decide +kernel
theorem dX3_remove_10 : decode cX3_remove 10 = .ok (.aload_n 0, 1) := by decide +kernel
theorem dX3_remove_11 : decode cX3_remove 11 = .ok (.getfield 39, 3) := by decide +kernel
theorem dX3_remove_14 : decode cX3_remove 14 = .ok (.if_icmp .lt 5, 3) := by decide +kernel
theorem dX3_remove_17 : decode cX3_remove 17 = .ok (.iconst 0, 1) := by decide +kernel
theorem dX3_remove_18 : decode cX3_remove 18 = .ok (.ireturn, 1) := by decide +kernel
theorem dX3_remove_19 : decode cX3_remove 19 = .ok (.aload_n 0, 1) := by decide +kernel
theorem dX3_remove_20 : decode cX3_remove 20 = .ok (.dup, 1) := by decide +kernel
theorem dX3_remove_21 : decode cX3_remove 21 = .ok (.getfield 39, 3) := by decide +kernel
theorem dX3_remove_24 : decode cX3_remove 24 = .ok (.iconst 1, 1) := by decide +kernel
theorem dX3_remove_25 : decode cX3_remove 25 = .ok (.isub, 1) := by decide +kernel
theorem dX3_remove_26 : decode cX3_remove 26 = .ok (.putfield 39, 3) := by decide +kernel
theorem dX3_remove_29 : decode cX3_remove 29 = .ok (.iload_n 1, 1) := by decide +kernel
theorem dX3_remove_30 : decode cX3_remove 30 = .ok (.istore_n 2, 1) := by decide +kernel
theorem dX3_remove_31 : decode cX3_remove 31 = .ok (.iload_n 2, 1) := by decide +kernel
theorem dX3_remove_32 : decode cX3_remove 32 = .ok (.aload_n 0, 1) := by decide +kernel
theorem dX3_remove_33 : decode cX3_remove 33 = .ok (.getfield 39, 3) := by decide +kernel
theorem dX3_remove_36 : decode cX3_remove 36 = .ok (.if_icmp .ge 51, 3) := by decide +kernel
theorem dX3_remove_39 : decode cX3_remove 39 = .ok (.aload_n 0, 1) := by decide +kernel
theorem dX3_remove_40 : decode cX3_remove 40 = .ok (.getfield 7, 3) := by decide +kernel
theorem dX3_remove_43 : decode cX3_remove 43 = .ok (.iload_n 2, 1) := by decide +kernel
theorem dX3_remove_44 : decode cX3_remove 44 = .ok (.aload_n 0, 1) := by decide +kernel
theorem dX3_remove_45 : decode cX3_remove 45 = .ok (.getfield 7, 3) := by decide +kernel
theorem dX3_remove_48 : decode cX3_remove 48 = .ok (.iload_n 2, 1) := by decide +kernel
theorem dX3_remove_49 : decode cX3_remove 49 = .ok (.iconst 1, 1) := by decide +kernel
theorem dX3_remove_50 : decode cX3_remove 50 = .ok (.iadd, 1) := by decide +kernel
theorem dX3_remove_51 : decode cX3_remove 51 = .ok (.iaload, 1) := by decide +kernel
theorem dX3_remove_52 : decode cX3_remove 52 = .ok (.iastore, 1) := by decide +kernel
theorem dX3_remove_53 : decode cX3_remove 53 = .ok (.aload_n 0, 1) := by decide +kernel
theorem dX3_remove_54 : decode cX3_remove 54 = .ok (.getfield 13, 3) := by decide +kernel
theorem dX3_remove_57 : decode cX3_remove 57 = .ok (.iload_n 2, 1) := by decide +kernel
theorem dX3_remove_58 : decode cX3_remove 58 = .ok (.aload_n 0, 1) := by decide +kernel
theorem dX3_remove_59 : decode cX3_remove 59 = .ok (.getfield 13, 3) := by decide +kernel
theorem dX3_remove_62 : decode cX3_remove 62 = .ok (.iload_n 2, 1) := by decide +kernel
theorem dX3_remove_63 : decode cX3_remove 63 = .ok (.iconst 1, 1) := by decide +kernel
theorem dX3_remove_64 : decode cX3_remove 64 = .ok (.iadd, 1) := by decide +kernel
theorem dX3_remove_65 : decode cX3_remove 65 = .ok (.iaload, 1) := by decide +kernel
theorem dX3_remove_66 : decode cX3_remove 66 = .ok (.iastore, 1) := by decide +kernel
theorem dX3_remove_67 : decode cX3_remove 67 = .ok (.aload_n 0, 1) := by decide +kernel
theorem dX3_remove_68 : decode cX3_remove 68 = .ok (.getfield 16, 3) := by decide +kernel
theorem dX3_remove_71 : decode cX3_remove 71 = .ok (.iload_n 2, 1) := by decide +kernel
theorem dX3_remove_72 : decode cX3_remove 72 = .ok (.aload_n 0, 1) := by decide +kernel
theorem dX3_remove_73 : decode cX3_remove 73 = .ok (.getfield 16, 3) := by decide +kernel
theorem dX3_remove_76 : decode cX3_remove 76 = .ok (.iload_n 2, 1) := by decide +kernel
theorem dX3_remove_77 : decode cX3_remove 77 = .ok (.iconst 1, 1) := by decide +kernel
theorem dX3_remove_78 : decode cX3_remove 78 = .ok (.iadd, 1) := by decide +kernel
theorem dX3_remove_79 : decode cX3_remove 79 = .ok (.iaload, 1) := by decide +kernel
theorem dX3_remove_80 : decode cX3_remove 80 = .ok (.iastore, 1) := by decide +kernel
theorem dX3_remove_81 : decode cX3_remove 81 = .ok (.iinc 2 1, 3) := by decide +kernel
theorem dX3_remove_84 : decode cX3_remove 84 = .ok (.goto (-53), 3) := by decide +kernel
theorem dX3_remove_87 : decode cX3_remove 87 = .ok (.iconst 1, 1) := by decide +kernel
theorem dX3_remove_88 : decode cX3_remove 88 = .ok (.ireturn, 1) := by decide +kernel
theorem dX3_lines_0 : decode cX3_lines 0 = .ok (.aload_n 0, 1) := by decide +kernel
theorem dX3_lines_1 : decode cX3_lines 1 = .ok (.iconst 0, 1) := by decide +kernel
theorem dX3_lines_2 : decode cX3_lines 2 = .ok (.putfield 31, 3) := by decide +kernel
theorem dX3_lines_5 : decode cX3_lines 5 = .ok (.aload_n 0, 1) := by decide +kernel
theorem dX3_lines_6 : decode cX3_lines 6 = .ok (.getfield 39, 3) := by decide +kernel
theorem dX3_lines_9 : decode cX3_lines 9 = .ok (.ireturn, 1) := by decide +kernel
theorem dX3_assemble_0 : decode cX3_assemble 0 = .ok (.aload_n 0, 1) := by decide +kernel
theorem dX3_assemble_1 : decode cX3_assemble 1 = .ok (.aload_n 0, 1) := by decide +kernel
theorem dX3_assemble_2 : decode cX3_assemble 2 = .ok (.invokevirtual 58, 3) := by decide +kernel
theorem dX3_assemble_5 : decode cX3_assemble 5 = .ok (.putfield 31, 3) := by decide +kernel
theorem dX3_assemble_8 : decode cX3_assemble 8 = .ok (.aload_n 0, 1) := by decide +kernel
theorem dX3_assemble_9 : decode cX3_assemble 9 = .ok (.getfield 31, 3) := by decide +kernel
theorem dX3_assemble_12 : decode cX3_assemble 12 = .ok (.ifCond .le 5, 3) := by decide +kernel
theorem dX3_assemble_15 : decode cX3_assemble 15 = .ok (.iconst 0, 1) := by decide +kernel
theorem dX3_assemble_16 : decode cX3_assemble 16 = .ok (.ireturn, 1) := by decide +kernel
theorem dX3_assemble_17 : decode cX3_assemble 17 = .ok (.aload_n 0, 1) := by decide +kernel
theorem dX3_assemble_18 : decode cX3_assemble 18 = .ok (.aload_n 0, 1) := by decide +kernel
theorem dX3_assemble_19 : decode cX3_assemble 19 = .ok (.getfield 39, 3) := by decide +kernel
theorem dX3_assemble_22 : decode cX3_assemble 22 = .ok (.putfield 49, 3) := by decide +kernel
theorem dX3_assemble_25 : decode cX3_assemble 25 = .ok (.iconst 0, 1) := by decide +kernel
theorem dX3_assemble_26 : decode cX3_assemble 26 = .ok (.istore_n 1, 1) := by decide +kernel
theorem dX3_assemble_27 : decode cX3_assemble 27 = .ok (.iload_n 1, 1) := by decide +kernel
theorem dX3_assemble_28 : decode cX3_assemble 28 = .ok (.aload_n 0, 1) := by decide +kernel
theorem dX3_assemble_29 : decode cX3_assemble 29 = .ok (.getfield 39, 3) := by decide +kernel
theorem dX3_assemble_32 : decode cX3_assemble 32 = .ok (.if_icmp .ge 84, 3) := by decide +kernel
theorem dX3_assemble_35 : decode cX3_assemble 35 = .ok (.aload_n 0, 1) := by decide +kernel
theorem dX3_assemble_36 : decode cX3_assemble 36 = .ok (.getfield 19, 3) := by decide +kernel
theorem dX3_assemble_39 : decode cX3_assemble 39 = .ok (.iload_n 1, 1) := by decide +kernel
theorem dX3_assemble_40 : decode cX3_assemble 40 = .ok (.aload_n 0, 1) := by decide +kernel
theorem dX3_assemble_41 : decode cX3_assemble 41 = .ok (.getfield 7, 3) := by decide +kernel
theorem dX3_assemble_44 : decode cX3_assemble 44 = .ok (.iload_n 1, 1) := by decide +kernel
theorem dX3_assemble_45 : decode cX3_assemble 45 = .ok (.iaload, 1) := by decide +kernel
theorem dX3_assemble_46 : decode cX3_assemble 46 = .ok (.iastore, 1) := by decide +kernel
theorem dX3_assemble_47 : decode cX3_assemble 47 = .ok (.aload_n 0, 1) := by decide +kernel
theorem dX3_assemble_48 : decode cX3_assemble 48 = .ok (.getfield 22, 3) := by decide +kernel
theorem dX3_assemble_51 : decode cX3_assemble 51 = .ok (.iload_n 1, 1) := by decide +kernel
theorem dX3_assemble_52 : decode cX3_assemble 52 = .ok (.aload_n 0, 1) := by decide +kernel
theorem dX3_assemble_53 : decode cX3_assemble 53 = .ok (.getfield 13, 3) := by decide +kernel
theorem dX3_assemble_56 : decode cX3_assemble 56 = .ok (.iload_n 1, 1) := by decide +kernel
theorem dX3_assemble_57 : decode cX3_assemble 57 = .ok (.iaload, 1) := by decide +kernel
theorem dX3_assemble_58 : decode cX3_assemble 58 = .ok (.iastore, 1) := by decide +kernel
theorem dX3_assemble_59 : decode cX3_assemble 59 = .ok (.aload_n 0, 1) := by decide +kernel
theorem dX3_assemble_60 : decode cX3_assemble 60 = .ok (.getfield 25, 3) := by decide +kernel
theorem dX3_assemble_63 : decode cX3_assemble 63 = .ok (.iload_n 1, 1) := by decide +kernel
theorem dX3_assemble_64 : decode cX3_assemble 64 = .ok (.aload_n 0, 1) := by decide +kernel
theorem dX3_assemble_65 : decode cX3_assemble 65 = .ok (.getfield 16, 3) := by decide +kernel
theorem dX3_assemble_68 : decode cX3_assemble 68 = .ok (.iload_n 1, 1) := by decide +kernel
theorem dX3_assemble_69 : decode cX3_assemble 69 = .ok (.iaload, 1) := by decide +kernel
theorem dX3_assemble_70 : decode cX3_assemble 70 = .ok (.iastore, 1) := by decide +kernel
theorem dX3_assemble_71 : decode cX3_assemble 71 = .ok (.aload_n 0, 1) := by decide +kernel
theorem dX3_assemble_72 : decode cX3_assemble 72 = .ok (.getfield 28, 3) := by decide +kernel
theorem dX3_assemble_75 : decode cX3_assemble 75 = .ok (.iload_n 1, 1) := by decide +kernel
theorem dX3_assemble_76 : decode cX3_assemble 76 = .ok (.aload_n 0, 1) := by decide +kernel
theorem dX3_assemble_77 : decode cX3_assemble 77 = .ok (.getfield 7, 3) := by decide +kernel
theorem dX3_assemble_80 : decode cX3_assemble 80 = .ok (.iload_n 1, 1) := by decide +kernel
theorem dX3_assemble_81 : decode cX3_assemble 81 = .ok (.iaload, 1) := by decide +kernel
theorem dX3_assemble_82 : decode cX3_assemble 82 = .ok (.ifCond .ne 7, 3) := by decide +kernel
theorem dX3_assemble_85 : decode cX3_assemble 85 = .ok (.iconst 0, 1) := by decide +kernel
theorem dX3_assemble_86 : decode cX3_assemble 86 = .ok (.goto 23, 3) := by decide +kernel
theorem dX3_assemble_89 : decode cX3_assemble 89 = .ok (.aload_n 0, 1) := by decide +kernel
theorem dX3_assemble_90 : decode cX3_assemble 90 = .ok (.getfield 7, 3) := by decide +kernel
theorem dX3_assemble_93 : decode cX3_assemble 93 = .ok (.iload_n 1, 1) := by decide +kernel
theorem dX3_assemble_94 : decode cX3_assemble 94 = .ok (.iaload, 1) := by decide +kernel
theorem dX3_assemble_95 : decode cX3_assemble 95 = .ok (.iconst 1, 1) := by decide +kernel
theorem dX3_assemble_96 : decode cX3_assemble 96 = .ok (.if_icmp .ne 12, 3) := by decide +kernel
theorem dX3_assemble_99 : decode cX3_assemble 99 = .ok (.aload_n 0, 1) := by decide +kernel
theorem dX3_assemble_100 : decode cX3_assemble 100 = .ok (.getfield 13, 3) := by decide +kernel
theorem dX3_assemble_103 : decode cX3_assemble 103 = .ok (.iload_n 1, 1) := by decide +kernel
theorem dX3_assemble_104 : decode cX3_assemble 104 = .ok (.iaload, 1) := by decide +kernel
theorem dX3_assemble_105 : decode cX3_assemble 105 = .ok (.goto 4, 3) := by decide +kernel
theorem dX3_assemble_108 : decode cX3_assemble 108 = .ok (.iconst 2, 1) := by decide +kernel
theorem dX3_assemble_109 : decode cX3_assemble 109 = .ok (.iastore, 1) := by decide +kernel
theorem dX3_assemble_110 : decode cX3_assemble 110 = .ok (.iinc 1 1, 3) := by decide +kernel
theorem dX3_assemble_113 : decode cX3_assemble 113 = .ok (.goto (-86), 3) := by decide +kernel
theorem dX3_assemble_116 : decode cX3_assemble 116 = .ok (.iconst 1, 1) := by decide +kernel
theorem dX3_assemble_117 : decode cX3_assemble 117 = .ok (.istore_n 1, 1) := by decide +kernel
theorem dX3_assemble_118 : decode cX3_assemble 118 = .ok (.iconst 0, 1) := by decide +kernel
theorem dX3_assemble_119 : decode cX3_assemble 119 = .ok (.istore_n 2, 1) := by decide +kernel
theorem dX3_assemble_120 : decode cX3_assemble 120 = .ok (.iload_n 2, 1) := by decide +kernel
theorem dX3_assemble_121 : decode cX3_assemble 121 = .ok (.bipush 51, 2) := by decide +kernel
theorem dX3_assemble_123 : decode cX3_assemble 123 = .ok (.if_icmp .ge 88, 3) := by decide +kernel
theorem dX3_assemble_126 : decode cX3_assemble 126 = .ok (.iload_n 1, 1) := by decide +kernel
theorem dX3_assemble_127 : decode cX3_assemble 127 = .ok (.ifCond .eq 84, 3) := by decide +kernel
theorem dX3_assemble_130 : decode cX3_assemble 130 = .ok (.iconst 0, 1) := by decide +kernel
theorem dX3_assemble_131 : decode cX3_assemble 131 = .ok (.istore_n 1, 1) := by decide +kernel
theorem dX3_assemble_132 : decode cX3_assemble 132 = .ok (.iconst 0, 1) := by decide +kernel
theorem dX3_assemble_133 : decode cX3_assemble 133 = .ok (.istore_n 3, 1) := by decide +kernel
theorem dX3_assemble_134 : decode cX3_assemble 134 = .ok (.iload_n 3, 1) := by decide +kernel
theorem dX3_assemble_135 : decode cX3_assemble 135 = .ok (.aload_n 0, 1) := by decide +kernel
theorem dX3_assemble_136 : decode cX3_assemble 136 = .ok (.getfield 49, 3) := by decide +kernel
theorem dX3_assemble_139 : decode cX3_assemble 139 = .ok (.if_icmp .ge 66, 3) := by decide +kernel
theorem dX3_assemble_142 : decode cX3_assemble 142 = .ok (.aload_n 0, 1) := by decide +kernel
theorem dX3_assemble_143 : decode cX3_assemble 143 = .ok (.getfield 19, 3) := by decide +kernel
theorem dX3_assemble_146 : decode cX3_assemble 146 = .ok (.iload_n 3, 1) := by decide +kernel
theorem dX3_assemble_147 : decode cX3_assemble 147 = .ok (.iaload, 1) := by decide +kernel
theorem dX3_assemble_148 : decode cX3_assemble 148 = .ok (.iconst 3, 1) := by decide +kernel
theorem dX3_assemble_149 : decode cX3_assemble 149 = .ok (.if_icmp .ne 50, 3) := by decide +kernel
theorem dX3_assemble_152 : decode cX3_assemble 152 = .ok (.aload_n 0, 1) := by decide +kernel
theorem dX3_assemble_153 : decode cX3_assemble 153 = .ok (.getfield 28, 3) := by decide +kernel
theorem dX3_assemble_156 : decode cX3_assemble 156 = .ok (.iload_n 3, 1) := by decide +kernel
theorem dX3_assemble_157 : decode cX3_assemble 157 = .ok (.iaload, 1) := by decide +kernel
theorem dX3_assemble_158 : decode cX3_assemble 158 = .ok (.iconst 2, 1) := by decide +kernel
theorem dX3_assemble_159 : decode cX3_assemble 159 = .ok (.if_icmp .ne 40, 3) := by decide +kernel
theorem dX3_assemble_162 : decode cX3_assemble 162 = .ok (.aload_n 0, 1) := by decide +kernel
theorem dX3_assemble_163 : decode cX3_assemble 163 = .ok (.iload_n 3, 1) := by decide +kernel
theorem dX3_assemble_164 : decode cX3_assemble 164 = .ok (.invokevirtual 62, 3) := by decide +kernel
theorem dX3_assemble_167 : decode cX3_assemble 167 = .ok (.bipush (-128), 2) := by decide +kernel
theorem dX3_assemble_169 : decode cX3_assemble 169 = .ok (.bipush 127, 2) := by decide +kernel
theorem dX3_assemble_171 : decode cX3_assemble 171 = .ok (.invokestatic 35, 3) := by decide +kernel
theorem dX3_assemble_174 : decode cX3_assemble 174 = .ok (.ifCond .ne 25, 3) := by decide +kernel
theorem dX3_assemble_177 : decode cX3_assemble 177 = .ok (.aload_n 0, 1) := by decide +kernel
theorem dX3_assemble_178 : decode cX3_assemble 178 = .ok (.getfield 28, 3) := by decide +kernel
theorem dX3_assemble_181 : decode cX3_assemble 181 = .ok (.iload_n 3, 1) := by decide +kernel
theorem dX3_assemble_182 : decode cX3_assemble 182 = .ok (.aload_n 0, 1) := by decide +kernel
theorem dX3_assemble_183 : decode cX3_assemble 183 = .ok (.getfield 25, 3) := by decide +kernel
theorem dX3_assemble_186 : decode cX3_assemble 186 = .ok (.iload_n 3, 1) := by decide +kernel
theorem dX3_assemble_187 : decode cX3_assemble 187 = .ok (.iaload, 1) := by decide +kernel
theorem dX3_assemble_188 : decode cX3_assemble 188 = .ok (.ifCond .ne 7, 3) := by decide +kernel
theorem dX3_assemble_191 : decode cX3_assemble 191 = .ok (.iconst 3, 1) := by decide +kernel
theorem dX3_assemble_192 : decode cX3_assemble 192 = .ok (.goto 4, 3) := by decide +kernel
theorem dX3_assemble_195 : decode cX3_assemble 195 = .ok (.iconst 5, 1) := by decide +kernel
theorem dX3_assemble_196 : decode cX3_assemble 196 = .ok (.iastore, 1) := by decide +kernel
theorem dX3_assemble_197 : decode cX3_assemble 197 = .ok (.iconst 1, 1) := by decide +kernel
theorem dX3_assemble_198 : decode cX3_assemble 198 = .ok (.istore_n 1, 1) := by decide +kernel
theorem dX3_assemble_199 : decode cX3_assemble 199 = .ok (.iinc 3 1, 3) := by decide +kernel
theorem dX3_assemble_202 : decode cX3_assemble 202 = .ok (.goto (-68), 3) := by decide +kernel
theorem dX3_assemble_205 : decode cX3_assemble 205 = .ok (.iinc 2 1, 3) := by decide +kernel
theorem dX3_assemble_208 : decode cX3_assemble 208 = .ok (.goto (-88), 3) := by decide +kernel
theorem dX3_assemble_211 : decode cX3_assemble 211 = .ok (.aload_n 0, 1) := by decide +kernel
theorem dX3_assemble_212 : decode cX3_assemble 212 = .ok (.aload_n 0, 1) := by decide +kernel
theorem dX3_assemble_213 : decode cX3_assemble 213 = .ok (.aload_n 0, 1) := by decide +kernel
theorem dX3_assemble_214 : decode cX3_assemble 214 = .ok (.getfield 49, 3) := by decide +kernel
theorem dX3_assemble_217 : decode cX3_assemble 217 = .ok (.invokevirtual 52, 3) := by decide +kernel
theorem dX3_assemble_220 : decode cX3_assemble 220 = .ok (.putfield 65, 3) := by decide +kernel
theorem dX3_assemble_223 : decode cX3_assemble 223 = .ok (.aload_n 0, 1) := by decide +kernel
theorem dX3_assemble_224 : decode cX3_assemble 224 = .ok (.getfield 65, 3) := by decide +kernel
theorem dX3_assemble_227 : decode cX3_assemble 227 = .ok (.ireturn, 1) := by decide +kernel
theorem dX3_wrong_0 : decode cX3_wrong 0 = .ok (.iconst 0, 1) := by decide +kernel
theorem dX3_wrong_1 : decode cX3_wrong 1 = .ok (.istore_n 1, 1) := by decide +kernel
theorem dX3_wrong_2 : decode cX3_wrong 2 = .ok (.iconst 0, 1) := by decide +kernel
theorem dX3_wrong_3 : decode cX3_wrong 3 = .ok (.istore_n 2, 1) := by decide +kernel
theorem dX3_wrong_4 : decode cX3_wrong 4 = .ok (.iload_n 2, 1) := by decide +kernel
theorem dX3_wrong_5 : decode cX3_wrong 5 = .ok (.aload_n 0, 1) := by decide +kernel
theorem dX3_wrong_6 : decode cX3_wrong 6 = .ok (.getfield 39, 3) := by decide +kernel
theorem dX3_wrong_9 : decode cX3_wrong 9 = .ok (.if_icmp .ge 38, 3) := by decide +kernel
theorem dX3_wrong_12 : decode cX3_wrong 12 = .ok (.aload_n 0, 1) := by decide +kernel
theorem dX3_wrong_13 : decode cX3_wrong 13 = .ok (.getfield 7, 3) := by decide +kernel
theorem dX3_wrong_16 : decode cX3_wrong 16 = .ok (.iload_n 2, 1) := by decide +kernel
theorem dX3_wrong_17 : decode cX3_wrong 17 = .ok (.iaload, 1) := by decide +kernel
theorem dX3_wrong_18 : decode cX3_wrong 18 = .ok (.iconst 1, 1) := by decide +kernel
theorem dX3_wrong_19 : decode cX3_wrong 19 = .ok (.if_icmp .le 20, 3) := by decide +kernel
theorem dX3_wrong_22 : decode cX3_wrong 22 = .ok (.aload_n 0, 1) := by decide +kernel
theorem dX3_wrong_23 : decode cX3_wrong 23 = .ok (.aload_n 0, 1) := by decide +kernel
theorem dX3_wrong_24 : decode cX3_wrong 24 = .ok (.getfield 13, 3) := by decide +kernel
theorem dX3_wrong_27 : decode cX3_wrong 27 = .ok (.iload_n 2, 1) := by decide +kernel
theorem dX3_wrong_28 : decode cX3_wrong 28 = .ok (.iaload, 1) := by decide +kernel
theorem dX3_wrong_29 : decode cX3_wrong 29 = .ok (.invokevirtual 45, 3) := by decide +kernel
theorem dX3_wrong_32 : decode cX3_wrong 32 = .ok (.ifCond .ne 7, 3) := by decide +kernel
theorem dX3_wrong_35 : decode cX3_wrong 35 = .ok (.iconst 2, 1) := by decide +kernel
theorem dX3_wrong_36 : decode cX3_wrong 36 = .ok (.goto 4, 3) := by decide +kernel
theorem dX3_wrong_39 : decode cX3_wrong 39 = .ok (.iload_n 1, 1) := by decide +kernel
theorem dX3_wrong_40 : decode cX3_wrong 40 = .ok (.istore_n 1, 1) := by decide +kernel
theorem dX3_wrong_41 : decode cX3_wrong 41 = .ok (.iinc 2 1, 3) := by decide +kernel
theorem dX3_wrong_44 : decode cX3_wrong 44 = .ok (.goto (-40), 3) := by decide +kernel
theorem dX3_wrong_47 : decode cX3_wrong 47 = .ok (.iconst 0, 1) := by decide +kernel
theorem dX3_wrong_48 : decode cX3_wrong 48 = .ok (.istore_n 2, 1) := by decide +kernel
theorem dX3_wrong_49 : decode cX3_wrong 49 = .ok (.iload_n 2, 1) := by decide +kernel
theorem dX3_wrong_50 : decode cX3_wrong 50 = .ok (.bipush 16, 2) := by decide +kernel
theorem dX3_wrong_52 : decode cX3_wrong 52 = .ok (.if_icmp .ge 24, 3) := by decide +kernel
theorem dX3_wrong_55 : decode cX3_wrong 55 = .ok (.aload_n 0, 1) := by decide +kernel
theorem dX3_wrong_56 : decode cX3_wrong 56 = .ok (.iload_n 2, 1) := by decide +kernel
theorem dX3_wrong_57 : decode cX3_wrong 57 = .ok (.invokevirtual 45, 3) := by decide +kernel
theorem dX3_wrong_60 : decode cX3_wrong 60 = .ok (.iconst 1, 1) := by decide +kernel
theorem dX3_wrong_61 : decode cX3_wrong 61 = .ok (.if_icmp .le 7, 3) := by decide +kernel
theorem dX3_wrong_64 : decode cX3_wrong 64 = .ok (.iconst 1, 1) := by decide +kernel
theorem dX3_wrong_65 : decode cX3_wrong 65 = .ok (.goto 4, 3) := by decide +kernel
theorem dX3_wrong_68 : decode cX3_wrong 68 = .ok (.iload_n 1, 1) := by decide +kernel
theorem dX3_wrong_69 : decode cX3_wrong 69 = .ok (.istore_n 1, 1) := by decide +kernel
theorem dX3_wrong_70 : decode cX3_wrong 70 = .ok (.iinc 2 1, 3) := by decide +kernel
theorem dX3_wrong_73 : decode cX3_wrong 73 = .ok (.goto (-24), 3) := by decide +kernel
theorem dX3_wrong_76 : decode cX3_wrong 76 = .ok (.iload_n 1, 1) := by decide +kernel
theorem dX3_wrong_77 : decode cX3_wrong 77 = .ok (.ireturn, 1) := by decide +kernel
theorem dX3_definitions_0 : decode cX3_definitions 0 = .ok (.iconst 0, 1) := by decide +kernel
theorem dX3_definitions_1 : decode cX3_definitions 1 = .ok (.istore_n 2, 1) := by decide +kernel
theorem dX3_definitions_2 : decode cX3_definitions 2 = .ok (.iconst 0, 1) := by decide +kernel
theorem dX3_definitions_3 : decode cX3_definitions 3 = .ok (.istore_n 3, 1) := by decide +kernel
theorem dX3_definitions_4 : decode cX3_definitions 4 = .ok (.iload_n 3, 1) := by decide +kernel
theorem dX3_definitions_5 : decode cX3_definitions 5 = .ok (.aload_n 0, 1) := by decide +kernel
theorem dX3_definitions_6 : decode cX3_definitions 6 = .ok (.getfield 39, 3) := by decide +kernel
theorem dX3_definitions_9 : decode cX3_definitions 9 = .ok (.if_icmp .ge 36, 3) := by decide +kernel
theorem dX3_definitions_12 : decode cX3_definitions 12 = .ok (.aload_n 0, 1) := by decide +kernel
theorem dX3_definitions_13 : decode cX3_definitions 13 = .ok (.getfield 7, 3) := by decide +kernel
theorem dX3_definitions_16 : decode cX3_definitions 16 = .ok (.iload_n 3, 1) := by decide +kernel
theorem dX3_definitions_17 : decode cX3_definitions 17 = .ok (.iaload, 1) := by decide +kernel
theorem dX3_definitions_18 : decode cX3_definitions 18 = .ok (.ifCond .ne 19, 3) := by decide +kernel
theorem dX3_definitions_21 : decode cX3_definitions 21 = .ok (.aload_n 0, 1) := by decide +kernel
theorem dX3_definitions_22 : decode cX3_definitions 22 = .ok (.getfield 13, 3) := by decide +kernel
theorem dX3_definitions_25 : decode cX3_definitions 25 = .ok (.iload_n 3, 1) := by decide +kernel
theorem dX3_definitions_26 : decode cX3_definitions 26 = .ok (.iaload, 1) := by decide +kernel
theorem dX3_definitions_27 : decode cX3_definitions 27 = .ok (.iload_n 1, 1) := by decide +kernel
theorem dX3_definitions_28 : decode cX3_definitions 28 = .ok (.if_icmp .ne 9, 3) := by decide +kernel
theorem dX3_definitions_31 : decode cX3_definitions 31 = .ok (.iload_n 2, 1) := by decide +kernel
theorem dX3_definitions_32 : decode cX3_definitions 32 = .ok (.iconst 1, 1) := by decide +kernel
theorem dX3_definitions_33 : decode cX3_definitions 33 = .ok (.iadd, 1) := by decide +kernel
theorem dX3_definitions_34 : decode cX3_definitions 34 = .ok (.goto 4, 3) := by decide +kernel
theorem dX3_definitions_37 : decode cX3_definitions 37 = .ok (.iload_n 2, 1) := by decide +kernel
theorem dX3_definitions_38 : decode cX3_definitions 38 = .ok (.istore_n 2, 1) := by decide +kernel
theorem dX3_definitions_39 : decode cX3_definitions 39 = .ok (.iinc 3 1, 3) := by decide +kernel
theorem dX3_definitions_42 : decode cX3_definitions 42 = .ok (.goto (-38), 3) := by decide +kernel
theorem dX3_definitions_45 : decode cX3_definitions 45 = .ok (.iload_n 2, 1) := by decide +kernel
theorem dX3_definitions_46 : decode cX3_definitions 46 = .ok (.ireturn, 1) := by decide +kernel
theorem dX3_span_0 : decode cX3_span 0 = .ok (.aload_n 0, 1) := by decide +kernel
theorem dX3_span_1 : decode cX3_span 1 = .ok (.aload_n 0, 1) := by decide +kernel
theorem dX3_span_2 : decode cX3_span 2 = .ok (.getfield 22, 3) := by decide +kernel
theorem dX3_span_5 : decode cX3_span 5 = .ok (.iload_n 1, 1) := by decide +kernel
theorem dX3_span_6 : decode cX3_span 6 = .ok (.iaload, 1) := by decide +kernel
theorem dX3_span_7 : decode cX3_span 7 = .ok (.invokevirtual 55, 3) := by decide +kernel
theorem dX3_span_10 : decode cX3_span 10 = .ok (.aload_n 0, 1) := by decide +kernel
theorem dX3_span_11 : decode cX3_span 11 = .ok (.iload_n 1, 1) := by decide +kernel
theorem dX3_span_12 : decode cX3_span 12 = .ok (.iconst 1, 1) := by decide +kernel
theorem dX3_span_13 : decode cX3_span 13 = .ok (.iadd, 1) := by decide +kernel
theorem dX3_span_14 : decode cX3_span 14 = .ok (.invokevirtual 52, 3) := by decide +kernel
theorem dX3_span_17 : decode cX3_span 17 = .ok (.isub, 1) := by decide +kernel
theorem dX3_span_18 : decode cX3_span 18 = .ok (.ireturn, 1) := by decide +kernel
theorem dX3_labelled_0 : decode cX3_labelled 0 = .ok (.iconst 0, 1) := by decide +kernel
theorem dX3_labelled_1 : decode cX3_labelled 1 = .ok (.istore_n 2, 1) := by decide +kernel
theorem dX3_labelled_2 : decode cX3_labelled 2 = .ok (.iload_n 2, 1) := by decide +kernel
theorem dX3_labelled_3 : decode cX3_labelled 3 = .ok (.aload_n 0, 1) := by decide +kernel
theorem dX3_labelled_4 : decode cX3_labelled 4 = .ok (.getfield 49, 3) := by decide +kernel
theorem dX3_labelled_7 : decode cX3_labelled 7 = .ok (.if_icmp .ge 34, 3) := by decide +kernel
theorem dX3_labelled_10 : decode cX3_labelled 10 = .ok (.aload_n 0, 1) := by decide +kernel
theorem dX3_labelled_11 : decode cX3_labelled 11 = .ok (.getfield 19, 3) := by decide +kernel
theorem dX3_labelled_14 : decode cX3_labelled 14 = .ok (.iload_n 2, 1) := by decide +kernel
theorem dX3_labelled_15 : decode cX3_labelled 15 = .ok (.iaload, 1) := by decide +kernel
theorem dX3_labelled_16 : decode cX3_labelled 16 = .ok (.ifCond .ne 19, 3) := by decide +kernel
theorem dX3_labelled_19 : decode cX3_labelled 19 = .ok (.aload_n 0, 1) := by decide +kernel
theorem dX3_labelled_20 : decode cX3_labelled 20 = .ok (.getfield 22, 3) := by decide +kernel
theorem dX3_labelled_23 : decode cX3_labelled 23 = .ok (.iload_n 2, 1) := by decide +kernel
theorem dX3_labelled_24 : decode cX3_labelled 24 = .ok (.iaload, 1) := by decide +kernel
theorem dX3_labelled_25 : decode cX3_labelled 25 = .ok (.iload_n 1, 1) := by decide +kernel
theorem dX3_labelled_26 : decode cX3_labelled 26 = .ok (.if_icmp .ne 9, 3) := by decide +kernel
theorem dX3_labelled_29 : decode cX3_labelled 29 = .ok (.aload_n 0, 1) := by decide +kernel
theorem dX3_labelled_30 : decode cX3_labelled 30 = .ok (.iload_n 2, 1) := by decide +kernel
theorem dX3_labelled_31 : decode cX3_labelled 31 = .ok (.invokevirtual 52, 3) := by decide +kernel
theorem dX3_labelled_34 : decode cX3_labelled 34 = .ok (.ireturn, 1) := by decide +kernel
theorem dX3_labelled_35 : decode cX3_labelled 35 = .ok (.iinc 2 1, 3) := by decide +kernel
theorem dX3_labelled_38 : decode cX3_labelled 38 = .ok (.goto (-36), 3) := by decide +kernel
theorem dX3_labelled_41 : decode cX3_labelled 41 = .ok (.iconst (-1), 1) := by decide +kernel
theorem dX3_labelled_42 : decode cX3_labelled 42 = .ok (.ireturn, 1) := by decide +kernel
theorem dX3_place_0 : decode cX3_place 0 = .ok (.iconst 0, 1) := by decide +kernel
theorem dX3_place_1 : decode cX3_place 1 = .ok (.istore_n 2, 1) := by decide +kernel
theorem dX3_place_2 : decode cX3_place 2 = .ok (.iconst 0, 1) := by decide +kernel
theorem dX3_place_3 : decode cX3_place 3 = .ok (.istore_n 3, 1) := by decide +kernel
theorem dX3_place_4 : decode cX3_place 4 = .ok (.iload_n 3, 1) := by decide +kernel
theorem dX3_place_5 : decode cX3_place 5 = .ok (.iload_n 1, 1) := by decide +kernel
theorem dX3_place_6 : decode cX3_place 6 = .ok (.if_icmp .ge 18, 3) := by decide +kernel
theorem dX3_place_9 : decode cX3_place 9 = .ok (.iload_n 2, 1) := by decide +kernel
theorem dX3_place_10 : decode cX3_place 10 = .ok (.aload_n 0, 1) := by decide +kernel
theorem dX3_place_11 : decode cX3_place 11 = .ok (.getfield 28, 3) := by decide +kernel
theorem dX3_place_14 : decode cX3_place 14 = .ok (.iload_n 3, 1) := by decide +kernel
theorem dX3_place_15 : decode cX3_place 15 = .ok (.iaload, 1) := by decide +kernel
theorem dX3_place_16 : decode cX3_place 16 = .ok (.iadd, 1) := by decide +kernel
theorem dX3_place_17 : decode cX3_place 17 = .ok (.istore_n 2, 1) := by decide +kernel
theorem dX3_place_18 : decode cX3_place 18 = .ok (.iinc 3 1, 3) := by decide +kernel
theorem dX3_place_21 : decode cX3_place 21 = .ok (.goto (-17), 3) := by decide +kernel
theorem dX3_place_24 : decode cX3_place 24 = .ok (.iload_n 2, 1) := by decide +kernel
theorem dX3_place_25 : decode cX3_place 25 = .ok (.ireturn, 1) := by decide +kernel
theorem dX3_at_0 : decode cX3_at 0 = .ok (.aload_n 0, 1) := by decide +kernel
theorem dX3_at_1 : decode cX3_at 1 = .ok (.iconst 0, 1) := by decide +kernel
theorem dX3_at_2 : decode cX3_at 2 = .ok (.putfield 31, 3) := by decide +kernel
theorem dX3_at_5 : decode cX3_at 5 = .ok (.iload_n 1, 1) := by decide +kernel
theorem dX3_at_6 : decode cX3_at 6 = .ok (.ifCond .lt 19, 3) := by decide +kernel
theorem dX3_at_9 : decode cX3_at 9 = .ok (.iload_n 1, 1) := by decide +kernel
theorem dX3_at_10 : decode cX3_at 10 = .ok (.aload_n 0, 1) := by decide +kernel
theorem dX3_at_11 : decode cX3_at 11 = .ok (.getfield 65, 3) := by decide +kernel
theorem dX3_at_14 : decode cX3_at 14 = .ok (.if_icmp .ge 11, 3) := by decide +kernel
theorem dX3_at_17 : decode cX3_at 17 = .ok (.aload_n 0, 1) := by decide +kernel
theorem dX3_at_18 : decode cX3_at 18 = .ok (.iload_n 1, 1) := by decide +kernel
theorem dX3_at_19 : decode cX3_at 19 = .ok (.invokevirtual 72, 3) := by decide +kernel
theorem dX3_at_22 : decode cX3_at 22 = .ok (.goto 4, 3) := by decide +kernel
theorem dX3_at_25 : decode cX3_at 25 = .ok (.iconst (-1), 1) := by decide +kernel
theorem dX3_at_26 : decode cX3_at 26 = .ok (.ireturn, 1) := by decide +kernel
theorem dX3_byteAt_0 : decode cX3_byteAt 0 = .ok (.iconst 0, 1) := by decide +kernel
theorem dX3_byteAt_1 : decode cX3_byteAt 1 = .ok (.istore_n 2, 1) := by decide +kernel
theorem dX3_byteAt_2 : decode cX3_byteAt 2 = .ok (.aload_n 0, 1) := by decide +kernel
theorem dX3_byteAt_3 : decode cX3_byteAt 3 = .ok (.iload_n 2, 1) := by decide +kernel
theorem dX3_byteAt_4 : decode cX3_byteAt 4 = .ok (.iconst 1, 1) := by decide +kernel
theorem dX3_byteAt_5 : decode cX3_byteAt 5 = .ok (.iadd, 1) := by decide +kernel
theorem dX3_byteAt_6 : decode cX3_byteAt 6 = .ok (.invokevirtual 52, 3) := by decide +kernel
theorem dX3_byteAt_9 : decode cX3_byteAt 9 = .ok (.iload_n 1, 1) := by decide +kernel
theorem dX3_byteAt_10 : decode cX3_byteAt 10 = .ok (.if_icmp .gt 9, 3) := by decide +kernel
theorem dX3_byteAt_13 : decode cX3_byteAt 13 = .ok (.iinc 2 1, 3) := by decide +kernel
theorem dX3_byteAt_16 : decode cX3_byteAt 16 = .ok (.goto (-14), 3) := by decide +kernel
theorem dX3_byteAt_19 : decode cX3_byteAt 19 = .ok (.iload_n 1, 1) := by decide +kernel
theorem dX3_byteAt_20 : decode cX3_byteAt 20 = .ok (.aload_n 0, 1) := by decide +kernel
theorem dX3_byteAt_21 : decode cX3_byteAt 21 = .ok (.iload_n 2, 1) := by decide +kernel
theorem dX3_byteAt_22 : decode cX3_byteAt 22 = .ok (.invokevirtual 52, 3) := by decide +kernel
theorem dX3_byteAt_25 : decode cX3_byteAt 25 = .ok (.isub, 1) := by decide +kernel
theorem dX3_byteAt_26 : decode cX3_byteAt 26 = .ok (.istore_n 3, 1) := by decide +kernel
theorem dX3_byteAt_27 : decode cX3_byteAt 27 = .ok (.aload_n 0, 1) := by decide +kernel
theorem dX3_byteAt_28 : decode cX3_byteAt 28 = .ok (.getfield 19, 3) := by decide +kernel
theorem dX3_byteAt_31 : decode cX3_byteAt 31 = .ok (.iload_n 2, 1) := by decide +kernel
theorem dX3_byteAt_32 : decode cX3_byteAt 32 = .ok (.iaload, 1) := by decide +kernel
theorem dX3_byteAt_33 : decode cX3_byteAt 33 = .ok (.iconst 1, 1) := by decide +kernel
theorem dX3_byteAt_34 : decode cX3_byteAt 34 = .ok (.if_icmp .ne 10, 3) := by decide +kernel
theorem dX3_byteAt_37 : decode cX3_byteAt 37 = .ok (.aload_n 0, 1) := by decide +kernel
theorem dX3_byteAt_38 : decode cX3_byteAt 38 = .ok (.getfield 25, 3) := by decide +kernel
theorem dX3_byteAt_41 : decode cX3_byteAt 41 = .ok (.iload_n 2, 1) := by decide +kernel
theorem dX3_byteAt_42 : decode cX3_byteAt 42 = .ok (.iaload, 1) := by decide +kernel
theorem dX3_byteAt_43 : decode cX3_byteAt 43 = .ok (.ireturn, 1) := by decide +kernel
theorem dX3_byteAt_44 : decode cX3_byteAt 44 = .ok (.aload_n 0, 1) := by decide +kernel
theorem dX3_byteAt_45 : decode cX3_byteAt 45 = .ok (.getfield 19, 3) := by decide +kernel
theorem dX3_byteAt_48 : decode cX3_byteAt 48 = .ok (.iload_n 2, 1) := by decide +kernel
theorem dX3_byteAt_49 : decode cX3_byteAt 49 = .ok (.iaload, 1) := by decide +kernel
theorem dX3_byteAt_50 : decode cX3_byteAt 50 = .ok (.iconst 2, 1) := by decide +kernel
theorem dX3_byteAt_51 : decode cX3_byteAt 51 = .ok (.if_icmp .ne 45, 3) := by decide +kernel
theorem dX3_byteAt_54 : decode cX3_byteAt 54 = .ok (.aload_n 0, 1) := by decide +kernel
theorem dX3_byteAt_55 : decode cX3_byteAt 55 = .ok (.aload_n 0, 1) := by decide +kernel
theorem dX3_byteAt_56 : decode cX3_byteAt 56 = .ok (.getfield 22, 3) := by decide +kernel
theorem dX3_byteAt_59 : decode cX3_byteAt 59 = .ok (.iload_n 2, 1) := by decide +kernel
theorem dX3_byteAt_60 : decode cX3_byteAt 60 = .ok (.iaload, 1) := by decide +kernel
theorem dX3_byteAt_61 : decode cX3_byteAt 61 = .ok (.invokevirtual 55, 3) := by decide +kernel
theorem dX3_byteAt_64 : decode cX3_byteAt 64 = .ok (.aload_n 0, 1) := by decide +kernel
theorem dX3_byteAt_65 : decode cX3_byteAt 65 = .ok (.getfield 25, 3) := by decide +kernel
theorem dX3_byteAt_68 : decode cX3_byteAt 68 = .ok (.iload_n 2, 1) := by decide +kernel
theorem dX3_byteAt_69 : decode cX3_byteAt 69 = .ok (.iaload, 1) := by decide +kernel
theorem dX3_byteAt_70 : decode cX3_byteAt 70 = .ok (.iadd, 1) := by decide +kernel
theorem dX3_byteAt_71 : decode cX3_byteAt 71 = .ok (.istore 4, 2) := by decide +kernel
theorem dX3_byteAt_73 : decode cX3_byteAt 73 = .ok (.iload_n 3, 1) := by decide +kernel
theorem dX3_byteAt_74 : decode cX3_byteAt 74 = .ok (.ifCond .ne 15, 3) := by decide +kernel
theorem dX3_byteAt_77 : decode cX3_byteAt 77 = .ok (.iload 4, 2) := by decide +kernel
theorem dX3_byteAt_79 : decode cX3_byteAt 79 = .ok (.bipush 8, 2) := by decide +kernel
theorem dX3_byteAt_81 : decode cX3_byteAt 81 = .ok (.ishr, 1) := by decide +kernel
theorem dX3_byteAt_82 : decode cX3_byteAt 82 = .ok (.sipush 255, 3) := by decide +kernel
theorem dX3_byteAt_85 : decode cX3_byteAt 85 = .ok (.iand, 1) := by decide +kernel
theorem dX3_byteAt_86 : decode cX3_byteAt 86 = .ok (.goto 9, 3) := by decide +kernel
theorem dX3_byteAt_89 : decode cX3_byteAt 89 = .ok (.iload 4, 2) := by decide +kernel
theorem dX3_byteAt_91 : decode cX3_byteAt 91 = .ok (.sipush 255, 3) := by decide +kernel
theorem dX3_byteAt_94 : decode cX3_byteAt 94 = .ok (.iand, 1) := by decide +kernel
theorem dX3_byteAt_95 : decode cX3_byteAt 95 = .ok (.ireturn, 1) := by decide +kernel
theorem dX3_byteAt_96 : decode cX3_byteAt 96 = .ok (.aload_n 0, 1) := by decide +kernel
theorem dX3_byteAt_97 : decode cX3_byteAt 97 = .ok (.iload_n 2, 1) := by decide +kernel
theorem dX3_byteAt_98 : decode cX3_byteAt 98 = .ok (.iload_n 3, 1) := by decide +kernel
theorem dX3_byteAt_99 : decode cX3_byteAt 99 = .ok (.invokevirtual 68, 3) := by decide +kernel
theorem dX3_byteAt_102 : decode cX3_byteAt 102 = .ok (.ireturn, 1) := by decide +kernel
theorem dX3_jumpByte_0 : decode cX3_jumpByte 0 = .ok (.aload_n 0, 1) := by decide +kernel
theorem dX3_jumpByte_1 : decode cX3_jumpByte 1 = .ok (.iload_n 1, 1) := by decide +kernel
theorem dX3_jumpByte_2 : decode cX3_jumpByte 2 = .ok (.invokevirtual 62, 3) := by decide +kernel
theorem dX3_jumpByte_5 : decode cX3_jumpByte 5 = .ok (.istore_n 3, 1) := by decide +kernel
theorem dX3_jumpByte_6 : decode cX3_jumpByte 6 = .ok (.aload_n 0, 1) := by decide +kernel
theorem dX3_jumpByte_7 : decode cX3_jumpByte 7 = .ok (.getfield 25, 3) := by decide +kernel
theorem dX3_jumpByte_10 : decode cX3_jumpByte 10 = .ok (.iload_n 1, 1) := by decide +kernel
theorem dX3_jumpByte_11 : decode cX3_jumpByte 11 = .ok (.iaload, 1) := by decide +kernel
theorem dX3_jumpByte_12 : decode cX3_jumpByte 12 = .ok (.istore 4, 2) := by decide +kernel
theorem dX3_jumpByte_14 : decode cX3_jumpByte 14 = .ok (.aload_n 0, 1) := by decide +kernel
theorem dX3_jumpByte_15 : decode cX3_jumpByte 15 = .ok (.getfield 28, 3) := by decide +kernel
theorem dX3_jumpByte_18 : decode cX3_jumpByte 18 = .ok (.iload_n 1, 1) := by decide +kernel
theorem dX3_jumpByte_19 : decode cX3_jumpByte 19 = .ok (.iaload, 1) := by decide +kernel
theorem dX3_jumpByte_20 : decode cX3_jumpByte 20 = .ok (.istore 5, 2) := by decide +kernel
theorem dX3_jumpByte_22 : decode cX3_jumpByte 22 = .ok (.iload 5, 2) := by decide +kernel
theorem dX3_jumpByte_24 : decode cX3_jumpByte 24 = .ok (.iconst 2, 1) := by decide +kernel
theorem dX3_jumpByte_25 : decode cX3_jumpByte 25 = .ok (.if_icmp .ne 21, 3) := by decide +kernel
theorem dX3_jumpByte_28 : decode cX3_jumpByte 28 = .ok (.iload_n 2, 1) := by decide +kernel
theorem dX3_jumpByte_29 : decode cX3_jumpByte 29 = .ok (.ifCond .ne 11, 3) := by decide +kernel
theorem dX3_jumpByte_32 : decode cX3_jumpByte 32 = .ok (.bipush 32, 2) := by decide +kernel
theorem dX3_jumpByte_34 : decode cX3_jumpByte 34 = .ok (.iload 4, 2) := by decide +kernel
theorem dX3_jumpByte_36 : decode cX3_jumpByte 36 = .ok (.iadd, 1) := by decide +kernel
theorem dX3_jumpByte_37 : decode cX3_jumpByte 37 = .ok (.goto 8, 3) := by decide +kernel
theorem dX3_jumpByte_40 : decode cX3_jumpByte 40 = .ok (.iload_n 3, 1) := by decide +kernel
theorem dX3_jumpByte_41 : decode cX3_jumpByte 41 = .ok (.sipush 255, 3) := by decide +kernel
theorem dX3_jumpByte_44 : decode cX3_jumpByte 44 = .ok (.iand, 1) := by decide +kernel
theorem dX3_jumpByte_45 : decode cX3_jumpByte 45 = .ok (.ireturn, 1) := by decide +kernel
theorem dX3_jumpByte_46 : decode cX3_jumpByte 46 = .ok (.iload 5, 2) := by decide +kernel
theorem dX3_jumpByte_48 : decode cX3_jumpByte 48 = .ok (.iconst 5, 1) := by decide +kernel
theorem dX3_jumpByte_49 : decode cX3_jumpByte 49 = .ok (.if_icmp .ne 36, 3) := by decide +kernel
theorem dX3_jumpByte_52 : decode cX3_jumpByte 52 = .ok (.iload_n 2, 1) := by decide +kernel
theorem dX3_jumpByte_53 : decode cX3_jumpByte 53 = .ok (.iconst 2, 1) := by decide +kernel
theorem dX3_jumpByte_54 : decode cX3_jumpByte 54 = .ok (.if_icmp .ge 31, 3) := by decide +kernel
theorem dX3_jumpByte_57 : decode cX3_jumpByte 57 = .ok (.iload_n 2, 1) := by decide +kernel
theorem dX3_jumpByte_58 : decode cX3_jumpByte 58 = .ok (.iconst 1, 1) := by decide +kernel
theorem dX3_jumpByte_59 : decode cX3_jumpByte 59 = .ok (.if_icmp .ne 7, 3) := by decide +kernel
theorem dX3_jumpByte_62 : decode cX3_jumpByte 62 = .ok (.iconst 3, 1) := by decide +kernel
theorem dX3_jumpByte_63 : decode cX3_jumpByte 63 = .ok (.goto 21, 3) := by decide +kernel
theorem dX3_jumpByte_66 : decode cX3_jumpByte 66 = .ok (.iload 4, 2) := by decide +kernel
theorem dX3_jumpByte_68 : decode cX3_jumpByte 68 = .ok (.iconst 4, 1) := by decide +kernel
theorem dX3_jumpByte_69 : decode cX3_jumpByte 69 = .ok (.if_icmp .ne 8, 3) := by decide +kernel
theorem dX3_jumpByte_72 : decode cX3_jumpByte 72 = .ok (.bipush 44, 2) := by decide +kernel
theorem dX3_jumpByte_74 : decode cX3_jumpByte 74 = .ok (.goto 10, 3) := by decide +kernel
theorem dX3_jumpByte_77 : decode cX3_jumpByte 77 = .ok (.bipush 32, 2) := by decide +kernel
theorem dX3_jumpByte_79 : decode cX3_jumpByte 79 = .ok (.iload 4, 2) := by decide +kernel
theorem dX3_jumpByte_81 : decode cX3_jumpByte 81 = .ok (.iconst 4, 1) := by decide +kernel
theorem dX3_jumpByte_82 : decode cX3_jumpByte 82 = .ok (.ixor, 1) := by decide +kernel
theorem dX3_jumpByte_83 : decode cX3_jumpByte 83 = .ok (.iadd, 1) := by decide +kernel
theorem dX3_jumpByte_84 : decode cX3_jumpByte 84 = .ok (.ireturn, 1) := by decide +kernel
theorem dX3_jumpByte_85 : decode cX3_jumpByte 85 = .ok (.iload 5, 2) := by decide +kernel
theorem dX3_jumpByte_87 : decode cX3_jumpByte 87 = .ok (.iload_n 2, 1) := by decide +kernel
theorem dX3_jumpByte_88 : decode cX3_jumpByte 88 = .ok (.isub, 1) := by decide +kernel
theorem dX3_jumpByte_89 : decode cX3_jumpByte 89 = .ok (.istore 6, 2) := by decide +kernel
theorem dX3_jumpByte_91 : decode cX3_jumpByte 91 = .ok (.iload 6, 2) := by decide +kernel
theorem dX3_jumpByte_93 : decode cX3_jumpByte 93 = .ok (.iconst 3, 1) := by decide +kernel
theorem dX3_jumpByte_94 : decode cX3_jumpByte 94 = .ok (.if_icmp .ne 8, 3) := by decide +kernel
theorem dX3_jumpByte_97 : decode cX3_jumpByte 97 = .ok (.bipush 64, 2) := by decide +kernel
theorem dX3_jumpByte_99 : decode cX3_jumpByte 99 = .ok (.goto 25, 3) := by decide +kernel
theorem dX3_jumpByte_102 : decode cX3_jumpByte 102 = .ok (.iload 6, 2) := by decide +kernel
theorem dX3_jumpByte_104 : decode cX3_jumpByte 104 = .ok (.iconst 2, 1) := by decide +kernel
theorem dX3_jumpByte_105 : decode cX3_jumpByte 105 = .ok (.if_icmp .ne 14, 3) := by decide +kernel
theorem dX3_jumpByte_108 : decode cX3_jumpByte 108 = .ok (.iload_n 3, 1) := by decide +kernel
theorem dX3_jumpByte_109 : decode cX3_jumpByte 109 = .ok (.bipush 8, 2) := by decide +kernel
theorem dX3_jumpByte_111 : decode cX3_jumpByte 111 = .ok (.ishr, 1) := by decide +kernel
theorem dX3_jumpByte_112 : decode cX3_jumpByte 112 = .ok (.sipush 255, 3) := by decide +kernel
theorem dX3_jumpByte_115 : decode cX3_jumpByte 115 = .ok (.iand, 1) := by decide +kernel
theorem dX3_jumpByte_116 : decode cX3_jumpByte 116 = .ok (.goto 8, 3) := by decide +kernel
theorem dX3_jumpByte_119 : decode cX3_jumpByte 119 = .ok (.iload_n 3, 1) := by decide +kernel
theorem dX3_jumpByte_120 : decode cX3_jumpByte 120 = .ok (.sipush 255, 3) := by decide +kernel
theorem dX3_jumpByte_123 : decode cX3_jumpByte 123 = .ok (.iand, 1) := by decide +kernel
theorem dX3_jumpByte_124 : decode cX3_jumpByte 124 = .ok (.ireturn, 1) := by decide +kernel
theorem dX3_address_0 : decode cX3_address 0 = .ok (.aload_n 0, 1) := by decide +kernel
theorem dX3_address_1 : decode cX3_address 1 = .ok (.iconst 0, 1) := by decide +kernel
theorem dX3_address_2 : decode cX3_address 2 = .ok (.putfield 31, 3) := by decide +kernel
theorem dX3_address_5 : decode cX3_address 5 = .ok (.iload_n 1, 1) := by decide +kernel
theorem dX3_address_6 : decode cX3_address 6 = .ok (.ifCond .lt 19, 3) := by decide +kernel
theorem dX3_address_9 : decode cX3_address 9 = .ok (.iload_n 1, 1) := by decide +kernel
theorem dX3_address_10 : decode cX3_address 10 = .ok (.aload_n 0, 1) := by decide +kernel
theorem dX3_address_11 : decode cX3_address 11 = .ok (.getfield 49, 3) := by decide +kernel
theorem dX3_address_14 : decode cX3_address 14 = .ok (.if_icmp .ge 11, 3) := by decide +kernel
theorem dX3_address_17 : decode cX3_address 17 = .ok (.aload_n 0, 1) := by decide +kernel
theorem dX3_address_18 : decode cX3_address 18 = .ok (.iload_n 1, 1) := by decide +kernel
theorem dX3_address_19 : decode cX3_address 19 = .ok (.invokevirtual 52, 3) := by decide +kernel
theorem dX3_address_22 : decode cX3_address 22 = .ok (.goto 4, 3) := by decide +kernel
theorem dX3_address_25 : decode cX3_address 25 = .ok (.iconst (-1), 1) := by decide +kernel
theorem dX3_address_26 : decode cX3_address 26 = .ok (.ireturn, 1) := by decide +kernel
theorem dX3_form_0 : decode cX3_form 0 = .ok (.aload_n 0, 1) := by decide +kernel
theorem dX3_form_1 : decode cX3_form 1 = .ok (.iconst 0, 1) := by decide +kernel
theorem dX3_form_2 : decode cX3_form 2 = .ok (.putfield 31, 3) := by decide +kernel
theorem dX3_form_5 : decode cX3_form 5 = .ok (.iload_n 1, 1) := by decide +kernel
theorem dX3_form_6 : decode cX3_form 6 = .ok (.ifCond .lt 11, 3) := by decide +kernel
theorem dX3_form_9 : decode cX3_form 9 = .ok (.iload_n 1, 1) := by decide +kernel
theorem dX3_form_10 : decode cX3_form 10 = .ok (.aload_n 0, 1) := by decide +kernel
theorem dX3_form_11 : decode cX3_form 11 = .ok (.getfield 49, 3) := by decide +kernel
theorem dX3_form_14 : decode cX3_form 14 = .ok (.if_icmp .lt 5, 3) := by decide +kernel
theorem dX3_form_17 : decode cX3_form 17 = .ok (.iconst (-1), 1) := by decide +kernel
theorem dX3_form_18 : decode cX3_form 18 = .ok (.ireturn, 1) := by decide +kernel
theorem dX3_form_19 : decode cX3_form 19 = .ok (.aload_n 0, 1) := by decide +kernel
theorem dX3_form_20 : decode cX3_form 20 = .ok (.getfield 19, 3) := by decide +kernel
theorem dX3_form_23 : decode cX3_form 23 = .ok (.iload_n 1, 1) := by decide +kernel
theorem dX3_form_24 : decode cX3_form 24 = .ok (.iaload, 1) := by decide +kernel
theorem dX3_form_25 : decode cX3_form 25 = .ok (.iconst 3, 1) := by decide +kernel
theorem dX3_form_26 : decode cX3_form 26 = .ok (.if_icmp .eq 7, 3) := by decide +kernel
theorem dX3_form_29 : decode cX3_form 29 = .ok (.iconst 0, 1) := by decide +kernel
theorem dX3_form_30 : decode cX3_form 30 = .ok (.goto 18, 3) := by decide +kernel
theorem dX3_form_33 : decode cX3_form 33 = .ok (.aload_n 0, 1) := by decide +kernel
theorem dX3_form_34 : decode cX3_form 34 = .ok (.getfield 28, 3) := by decide +kernel
theorem dX3_form_37 : decode cX3_form 37 = .ok (.iload_n 1, 1) := by decide +kernel
theorem dX3_form_38 : decode cX3_form 38 = .ok (.iaload, 1) := by decide +kernel
theorem dX3_form_39 : decode cX3_form 39 = .ok (.iconst 2, 1) := by decide +kernel
theorem dX3_form_40 : decode cX3_form 40 = .ok (.if_icmp .ne 7, 3) := by decide +kernel
theorem dX3_form_43 : decode cX3_form 43 = .ok (.iconst 1, 1) := by decide +kernel
theorem dX3_form_44 : decode cX3_form 44 = .ok (.goto 4, 3) := by decide +kernel
theorem dX3_form_47 : decode cX3_form 47 = .ok (.iconst 2, 1) := by decide +kernel
theorem dX3_form_48 : decode cX3_form 48 = .ok (.ireturn, 1) := by decide +kernel
theorem dX3_longs_0 : decode cX3_longs 0 = .ok (.aload_n 0, 1) := by decide +kernel
theorem dX3_longs_1 : decode cX3_longs 1 = .ok (.iconst 0, 1) := by decide +kernel
theorem dX3_longs_2 : decode cX3_longs 2 = .ok (.putfield 31, 3) := by decide +kernel
theorem dX3_longs_5 : decode cX3_longs 5 = .ok (.iconst 0, 1) := by decide +kernel
theorem dX3_longs_6 : decode cX3_longs 6 = .ok (.istore_n 1, 1) := by decide +kernel
theorem dX3_longs_7 : decode cX3_longs 7 = .ok (.iconst 0, 1) := by decide +kernel
theorem dX3_longs_8 : decode cX3_longs 8 = .ok (.istore_n 2, 1) := by decide +kernel
theorem dX3_longs_9 : decode cX3_longs 9 = .ok (.iload_n 2, 1) := by decide +kernel
theorem dX3_longs_10 : decode cX3_longs 10 = .ok (.aload_n 0, 1) := by decide +kernel
theorem dX3_longs_11 : decode cX3_longs 11 = .ok (.getfield 49, 3) := by decide +kernel
theorem dX3_longs_14 : decode cX3_longs 14 = .ok (.if_icmp .ge 37, 3) := by decide +kernel
theorem dX3_longs_17 : decode cX3_longs 17 = .ok (.aload_n 0, 1) := by decide +kernel
theorem dX3_longs_18 : decode cX3_longs 18 = .ok (.getfield 19, 3) := by decide +kernel
theorem dX3_longs_21 : decode cX3_longs 21 = .ok (.iload_n 2, 1) := by decide +kernel
theorem dX3_longs_22 : decode cX3_longs 22 = .ok (.iaload, 1) := by decide +kernel
theorem dX3_longs_23 : decode cX3_longs 23 = .ok (.iconst 3, 1) := by decide +kernel
theorem dX3_longs_24 : decode cX3_longs 24 = .ok (.if_icmp .ne 19, 3) := by decide +kernel
theorem dX3_longs_27 : decode cX3_longs 27 = .ok (.aload_n 0, 1) := by decide +kernel
theorem dX3_longs_28 : decode cX3_longs 28 = .ok (.getfield 28, 3) := by decide +kernel
theorem dX3_longs_31 : decode cX3_longs 31 = .ok (.iload_n 2, 1) := by decide +kernel
theorem dX3_longs_32 : decode cX3_longs 32 = .ok (.iaload, 1) := by decide +kernel
theorem dX3_longs_33 : decode cX3_longs 33 = .ok (.iconst 2, 1) := by decide +kernel
theorem dX3_longs_34 : decode cX3_longs 34 = .ok (.if_icmp .le 9, 3) := by decide +kernel
theorem dX3_longs_37 : decode cX3_longs 37 = .ok (.iload_n 1, 1) := by decide +kernel
theorem dX3_longs_38 : decode cX3_longs 38 = .ok (.iconst 1, 1) := by decide +kernel
theorem dX3_longs_39 : decode cX3_longs 39 = .ok (.iadd, 1) := by decide +kernel
theorem dX3_longs_40 : decode cX3_longs 40 = .ok (.goto 4, 3) := by decide +kernel
theorem dX3_longs_43 : decode cX3_longs 43 = .ok (.iload_n 1, 1) := by decide +kernel
theorem dX3_longs_44 : decode cX3_longs 44 = .ok (.istore_n 1, 1) := by decide +kernel
theorem dX3_longs_45 : decode cX3_longs 45 = .ok (.iinc 2 1, 3) := by decide +kernel
theorem dX3_longs_48 : decode cX3_longs 48 = .ok (.goto (-39), 3) := by decide +kernel
theorem dX3_longs_51 : decode cX3_longs 51 = .ok (.iload_n 1, 1) := by decide +kernel
theorem dX3_longs_52 : decode cX3_longs 52 = .ok (.ireturn, 1) := by decide +kernel
theorem dX3_value_0 : decode cX3_value 0 = .ok (.aload_n 0, 1) := by decide +kernel
theorem dX3_value_1 : decode cX3_value 1 = .ok (.iconst 0, 1) := by decide +kernel
theorem dX3_value_2 : decode cX3_value 2 = .ok (.putfield 31, 3) := by decide +kernel
theorem dX3_value_5 : decode cX3_value 5 = .ok (.aload_n 0, 1) := by decide +kernel
theorem dX3_value_6 : decode cX3_value 6 = .ok (.iload_n 1, 1) := by decide +kernel
theorem dX3_value_7 : decode cX3_value 7 = .ok (.invokevirtual 55, 3) := by decide +kernel
theorem dX3_value_10 : decode cX3_value 10 = .ok (.ireturn, 1) := by decide +kernel
theorem dX3_follow_0 : decode cX3_follow 0 = .ok (.aload_n 0, 1) := by decide +kernel
theorem dX3_follow_1 : decode cX3_follow 1 = .ok (.aload_n 0, 1) := by decide +kernel
theorem dX3_follow_2 : decode cX3_follow 2 = .ok (.iload_n 1, 1) := by decide +kernel
theorem dX3_follow_3 : decode cX3_follow 3 = .ok (.invokevirtual 75, 3) := by decide +kernel
theorem dX3_follow_6 : decode cX3_follow 6 = .ok (.ifCond .ne 7, 3) := by decide +kernel
theorem dX3_follow_9 : decode cX3_follow 9 = .ok (.iconst 1, 1) := by decide +kernel
theorem dX3_follow_10 : decode cX3_follow 10 = .ok (.goto 4, 3) := by decide +kernel
theorem dX3_follow_13 : decode cX3_follow 13 = .ok (.iconst 0, 1) := by decide +kernel
theorem dX3_follow_14 : decode cX3_follow 14 = .ok (.putfield 31, 3) := by decide +kernel
theorem dX3_follow_17 : decode cX3_follow 17 = .ok (.aload_n 0, 1) := by decide +kernel
theorem dX3_follow_18 : decode cX3_follow 18 = .ok (.getfield 31, 3) := by decide +kernel
theorem dX3_follow_21 : decode cX3_follow 21 = .ok (.ifCond .le 7, 3) := by decide +kernel
theorem dX3_follow_24 : decode cX3_follow 24 = .ok (.iconst 0, 1) := by decide +kernel
theorem dX3_follow_25 : decode cX3_follow 25 = .ok (.goto 9, 3) := by decide +kernel
theorem dX3_follow_28 : decode cX3_follow 28 = .ok (.aload_n 0, 1) := by decide +kernel
theorem dX3_follow_29 : decode cX3_follow 29 = .ok (.iload_n 1, 1) := by decide +kernel
theorem dX3_follow_30 : decode cX3_follow 30 = .ok (.iload_n 2, 1) := by decide +kernel
