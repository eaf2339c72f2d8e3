theorem dX3_follow_31 : decode cX3_follow 31 = .ok (.invokevirtual 78, 3) := by decide +kernel
theorem dX3_follow_34 : decode cX3_follow 34 = .ok (.ireturn, 1) := by decide +kernel
theorem dX3_length_0 : decode cX3_length 0 = .ok (.iload_n 1, 1) := by decide +kernel
theorem dX3_length_1 : decode cX3_length 1 = .ok (.ifCond .lt 11, 3) := by decide +kernel
theorem dX3_length_4 : decode cX3_length 4 = .ok (.iload_n 1, 1) := by decide +kernel
theorem dX3_length_5 : decode cX3_length 5 = .ok (.aload_n 0, 1) := by decide +kernel
theorem dX3_length_6 : decode cX3_length 6 = .ok (.getfield 65, 3) := by decide +kernel
theorem dX3_length_9 : decode cX3_length 9 = .ok (.if_icmp .lt 5, 3) := by decide +kernel
theorem dX3_length_12 : decode cX3_length 12 = .ok (.iconst 0, 1) := by decide +kernel
theorem dX3_length_13 : decode cX3_length 13 = .ok (.ireturn, 1) := by decide +kernel
theorem dX3_length_14 : decode cX3_length 14 = .ok (.aload_n 0, 1) := by decide +kernel
theorem dX3_length_15 : decode cX3_length 15 = .ok (.iload_n 1, 1) := by decide +kernel
theorem dX3_length_16 : decode cX3_length 16 = .ok (.invokevirtual 72, 3) := by decide +kernel
theorem dX3_length_19 : decode cX3_length 19 = .ok (.istore_n 2, 1) := by decide +kernel
theorem dX3_length_20 : decode cX3_length 20 = .ok (.iload_n 2, 1) := by decide +kernel
theorem dX3_length_21 : decode cX3_length 21 = .ok (.bipush 32, 2) := by decide +kernel
theorem dX3_length_23 : decode cX3_length 23 = .ok (.if_icmp .lt 13, 3) := by decide +kernel
theorem dX3_length_26 : decode cX3_length 26 = .ok (.iload_n 2, 1) := by decide +kernel
theorem dX3_length_27 : decode cX3_length 27 = .ok (.bipush 47, 2) := by decide +kernel
theorem dX3_length_29 : decode cX3_length 29 = .ok (.if_icmp .gt 7, 3) := by decide +kernel
theorem dX3_length_32 : decode cX3_length 32 = .ok (.iconst 2, 1) := by decide +kernel
theorem dX3_length_33 : decode cX3_length 33 = .ok (.goto 14, 3) := by decide +kernel
theorem dX3_length_36 : decode cX3_length 36 = .ok (.iload_n 2, 1) := by decide +kernel
theorem dX3_length_37 : decode cX3_length 37 = .ok (.bipush 64, 2) := by decide +kernel
theorem dX3_length_39 : decode cX3_length 39 = .ok (.if_icmp .ne 7, 3) := by decide +kernel
theorem dX3_length_42 : decode cX3_length 42 = .ok (.iconst 3, 1) := by decide +kernel
theorem dX3_length_43 : decode cX3_length 43 = .ok (.goto 4, 3) := by decide +kernel
theorem dX3_length_46 : decode cX3_length 46 = .ok (.iconst 1, 1) := by decide +kernel
theorem dX3_length_47 : decode cX3_length 47 = .ok (.istore_n 3, 1) := by decide +kernel
theorem dX3_length_48 : decode cX3_length 48 = .ok (.iload_n 3, 1) := by decide +kernel
theorem dX3_length_49 : decode cX3_length 49 = .ok (.aload_n 0, 1) := by decide +kernel
theorem dX3_length_50 : decode cX3_length 50 = .ok (.getfield 65, 3) := by decide +kernel
theorem dX3_length_53 : decode cX3_length 53 = .ok (.iload_n 1, 1) := by decide +kernel
theorem dX3_length_54 : decode cX3_length 54 = .ok (.isub, 1) := by decide +kernel
theorem dX3_length_55 : decode cX3_length 55 = .ok (.if_icmp .le 7, 3) := by decide +kernel
theorem dX3_length_58 : decode cX3_length 58 = .ok (.iconst 0, 1) := by decide +kernel
theorem dX3_length_59 : decode cX3_length 59 = .ok (.goto 4, 3) := by decide +kernel
theorem dX3_length_62 : decode cX3_length 62 = .ok (.iload_n 3, 1) := by decide +kernel
theorem dX3_length_63 : decode cX3_length 63 = .ok (.ireturn, 1) := by decide +kernel
theorem dX3_next_0 : decode cX3_next 0 = .ok (.aload_n 0, 1) := by decide +kernel
theorem dX3_next_1 : decode cX3_next 1 = .ok (.iload_n 1, 1) := by decide +kernel
theorem dX3_next_2 : decode cX3_next 2 = .ok (.invokevirtual 75, 3) := by decide +kernel
theorem dX3_next_5 : decode cX3_next 5 = .ok (.istore_n 3, 1) := by decide +kernel
theorem dX3_next_6 : decode cX3_next 6 = .ok (.iload_n 1, 1) := by decide +kernel
theorem dX3_next_7 : decode cX3_next 7 = .ok (.iload_n 3, 1) := by decide +kernel
theorem dX3_next_8 : decode cX3_next 8 = .ok (.iadd, 1) := by decide +kernel
theorem dX3_next_9 : decode cX3_next 9 = .ok (.istore 4, 2) := by decide +kernel
theorem dX3_next_11 : decode cX3_next 11 = .ok (.iload_n 3, 1) := by decide +kernel
theorem dX3_next_12 : decode cX3_next 12 = .ok (.iconst 1, 1) := by decide +kernel
theorem dX3_next_13 : decode cX3_next 13 = .ok (.if_icmp .eq 7, 3) := by decide +kernel
theorem dX3_next_16 : decode cX3_next 16 = .ok (.iload_n 2, 1) := by decide +kernel
theorem dX3_next_17 : decode cX3_next 17 = .ok (.ifCond .ne 6, 3) := by decide +kernel
theorem dX3_next_20 : decode cX3_next 20 = .ok (.iload 4, 2) := by decide +kernel
theorem dX3_next_22 : decode cX3_next 22 = .ok (.ireturn, 1) := by decide +kernel
theorem dX3_next_23 : decode cX3_next 23 = .ok (.aload_n 0, 1) := by decide +kernel
theorem dX3_next_24 : decode cX3_next 24 = .ok (.iload 4, 2) := by decide +kernel
theorem dX3_next_26 : decode cX3_next 26 = .ok (.iconst 1, 1) := by decide +kernel
theorem dX3_next_27 : decode cX3_next 27 = .ok (.isub, 1) := by decide +kernel
theorem dX3_next_28 : decode cX3_next 28 = .ok (.invokevirtual 72, 3) := by decide +kernel
theorem dX3_next_31 : decode cX3_next 31 = .ok (.istore 5, 2) := by decide +kernel
theorem dX3_next_33 : decode cX3_next 33 = .ok (.iload_n 3, 1) := by decide +kernel
theorem dX3_next_34 : decode cX3_next 34 = .ok (.iconst 2, 1) := by decide +kernel
theorem dX3_next_35 : decode cX3_next 35 = .ok (.if_icmp .ne 25, 3) := by decide +kernel
theorem dX3_next_38 : decode cX3_next 38 = .ok (.iload 4, 2) := by decide +kernel
theorem dX3_next_40 : decode cX3_next 40 = .ok (.iload 5, 2) := by decide +kernel
theorem dX3_next_42 : decode cX3_next 42 = .ok (.bipush 127, 2) := by decide +kernel
theorem dX3_next_44 : decode cX3_next 44 = .ok (.if_icmp .le 12, 3) := by decide +kernel
theorem dX3_next_47 : decode cX3_next 47 = .ok (.iload 5, 2) := by decide +kernel
theorem dX3_next_49 : decode cX3_next 49 = .ok (.sipush 256, 3) := by decide +kernel
theorem dX3_next_52 : decode cX3_next 52 = .ok (.isub, 1) := by decide +kernel
theorem dX3_next_53 : decode cX3_next 53 = .ok (.goto 5, 3) := by decide +kernel
theorem dX3_next_56 : decode cX3_next 56 = .ok (.iload 5, 2) := by decide +kernel
theorem dX3_next_58 : decode cX3_next 58 = .ok (.iadd, 1) := by decide +kernel
theorem dX3_next_59 : decode cX3_next 59 = .ok (.ireturn, 1) := by decide +kernel
theorem dX3_next_60 : decode cX3_next 60 = .ok (.aload_n 0, 1) := by decide +kernel
theorem dX3_next_61 : decode cX3_next 61 = .ok (.iload 4, 2) := by decide +kernel
theorem dX3_next_63 : decode cX3_next 63 = .ok (.iconst 2, 1) := by decide +kernel
theorem dX3_next_64 : decode cX3_next 64 = .ok (.isub, 1) := by decide +kernel
theorem dX3_next_65 : decode cX3_next 65 = .ok (.invokevirtual 72, 3) := by decide +kernel
theorem dX3_next_68 : decode cX3_next 68 = .ok (.istore 6, 2) := by decide +kernel
theorem dX3_next_70 : decode cX3_next 70 = .ok (.iload 4, 2) := by decide +kernel
theorem dX3_next_72 : decode cX3_next 72 = .ok (.sipush 256, 3) := by decide +kernel
theorem dX3_next_75 : decode cX3_next 75 = .ok (.iload 6, 2) := by decide +kernel
theorem dX3_next_77 : decode cX3_next 77 = .ok (.bipush 127, 2) := by decide +kernel
theorem dX3_next_79 : decode cX3_next 79 = .ok (.if_icmp .le 12, 3) := by decide +kernel
theorem dX3_next_82 : decode cX3_next 82 = .ok (.iload 6, 2) := by decide +kernel
theorem dX3_next_84 : decode cX3_next 84 = .ok (.sipush 256, 3) := by decide +kernel
theorem dX3_next_87 : decode cX3_next 87 = .ok (.isub, 1) := by decide +kernel
theorem dX3_next_88 : decode cX3_next 88 = .ok (.goto 5, 3) := by decide +kernel
theorem dX3_next_91 : decode cX3_next 91 = .ok (.iload 6, 2) := by decide +kernel
theorem dX3_next_93 : decode cX3_next 93 = .ok (.imul, 1) := by decide +kernel
theorem dX3_next_94 : decode cX3_next 94 = .ok (.iadd, 1) := by decide +kernel
theorem dX3_next_95 : decode cX3_next 95 = .ok (.iload 5, 2) := by decide +kernel
theorem dX3_next_97 : decode cX3_next 97 = .ok (.iadd, 1) := by decide +kernel
theorem dX3_next_98 : decode cX3_next 98 = .ok (.ireturn, 1) := by decide +kernel
theorem dX3_jumps_0 : decode cX3_jumps 0 = .ok (.aload_n 0, 1) := by decide +kernel
theorem dX3_jumps_1 : decode cX3_jumps 1 = .ok (.iconst 0, 1) := by decide +kernel
theorem dX3_jumps_2 : decode cX3_jumps 2 = .ok (.putfield 31, 3) := by decide +kernel
theorem dX3_jumps_5 : decode cX3_jumps 5 = .ok (.aload_n 0, 1) := by decide +kernel
theorem dX3_jumps_6 : decode cX3_jumps 6 = .ok (.iload_n 1, 1) := by decide +kernel
theorem dX3_jumps_7 : decode cX3_jumps 7 = .ok (.invokevirtual 75, 3) := by decide +kernel
theorem dX3_jumps_10 : decode cX3_jumps 10 = .ok (.iconst 1, 1) := by decide +kernel
theorem dX3_jumps_11 : decode cX3_jumps 11 = .ok (.if_icmp .le 7, 3) := by decide +kernel
theorem dX3_jumps_14 : decode cX3_jumps 14 = .ok (.iconst 1, 1) := by decide +kernel
theorem dX3_jumps_15 : decode cX3_jumps 15 = .ok (.goto 4, 3) := by decide +kernel
theorem dX3_jumps_18 : decode cX3_jumps 18 = .ok (.iconst 0, 1) := by decide +kernel
theorem dX3_jumps_19 : decode cX3_jumps 19 = .ok (.ireturn, 1) := by decide +kernel
theorem dX3_trace_0 : decode cX3_trace 0 = .ok (.aload_n 0, 1) := by decide +kernel
theorem dX3_trace_1 : decode cX3_trace 1 = .ok (.iconst 0, 1) := by decide +kernel
theorem dX3_trace_2 : decode cX3_trace 2 = .ok (.putfield 31, 3) := by decide +kernel
theorem dX3_trace_5 : decode cX3_trace 5 = .ok (.iload_n 3, 1) := by decide +kernel
theorem dX3_trace_6 : decode cX3_trace 6 = .ok (.ifCond .lt 9, 3) := by decide +kernel
theorem dX3_trace_9 : decode cX3_trace 9 = .ok (.iload_n 3, 1) := by decide +kernel
theorem dX3_trace_10 : decode cX3_trace 10 = .ok (.bipush 40, 2) := by decide +kernel
theorem dX3_trace_12 : decode cX3_trace 12 = .ok (.if_icmp .le 5, 3) := by decide +kernel
theorem dX3_trace_15 : decode cX3_trace 15 = .ok (.iconst (-1), 1) := by decide +kernel
theorem dX3_trace_16 : decode cX3_trace 16 = .ok (.ireturn, 1) := by decide +kernel
theorem dX3_trace_17 : decode cX3_trace 17 = .ok (.iload_n 1, 1) := by decide +kernel
theorem dX3_trace_18 : decode cX3_trace 18 = .ok (.istore 4, 2) := by decide +kernel
theorem dX3_trace_20 : decode cX3_trace 20 = .ok (.iconst 0, 1) := by decide +kernel
theorem dX3_trace_21 : decode cX3_trace 21 = .ok (.istore 5, 2) := by decide +kernel
theorem dX3_trace_23 : decode cX3_trace 23 = .ok (.iload 5, 2) := by decide +kernel
theorem dX3_trace_25 : decode cX3_trace 25 = .ok (.iload_n 3, 1) := by decide +kernel
theorem dX3_trace_26 : decode cX3_trace 26 = .ok (.if_icmp .ge 78, 3) := by decide +kernel
theorem dX3_trace_29 : decode cX3_trace 29 = .ok (.aload_n 0, 1) := by decide +kernel
theorem dX3_trace_30 : decode cX3_trace 30 = .ok (.iload 4, 2) := by decide +kernel
theorem dX3_trace_32 : decode cX3_trace 32 = .ok (.invokevirtual 75, 3) := by decide +kernel
theorem dX3_trace_35 : decode cX3_trace 35 = .ok (.ifCond .le 69, 3) := by decide +kernel
theorem dX3_trace_38 : decode cX3_trace 38 = .ok (.aload_n 0, 1) := by decide +kernel
theorem dX3_trace_39 : decode cX3_trace 39 = .ok (.iload 4, 2) := by decide +kernel
theorem dX3_trace_41 : decode cX3_trace 41 = .ok (.invokevirtual 72, 3) := by decide +kernel
theorem dX3_trace_44 : decode cX3_trace 44 = .ok (.istore 6, 2) := by decide +kernel
theorem dX3_trace_46 : decode cX3_trace 46 = .ok (.iload 6, 2) := by decide +kernel
theorem dX3_trace_48 : decode cX3_trace 48 = .ok (.bipush 32, 2) := by decide +kernel
theorem dX3_trace_50 : decode cX3_trace 50 = .ok (.if_icmp .eq 10, 3) := by decide +kernel
theorem dX3_trace_53 : decode cX3_trace 53 = .ok (.iload 6, 2) := by decide +kernel
theorem dX3_trace_55 : decode cX3_trace 55 = .ok (.bipush 64, 2) := by decide +kernel
theorem dX3_trace_57 : decode cX3_trace 57 = .ok (.if_icmp .ne 7, 3) := by decide +kernel
theorem dX3_trace_60 : decode cX3_trace 60 = .ok (.iconst 1, 1) := by decide +kernel
theorem dX3_trace_61 : decode cX3_trace 61 = .ok (.goto 4, 3) := by decide +kernel
theorem dX3_trace_64 : decode cX3_trace 64 = .ok (.iconst 0, 1) := by decide +kernel
theorem dX3_trace_65 : decode cX3_trace 65 = .ok (.istore 7, 2) := by decide +kernel
theorem dX3_trace_67 : decode cX3_trace 67 = .ok (.aload_n 0, 1) := by decide +kernel
theorem dX3_trace_68 : decode cX3_trace 68 = .ok (.iload 4, 2) := by decide +kernel
theorem dX3_trace_70 : decode cX3_trace 70 = .ok (.iload 7, 2) := by decide +kernel
theorem dX3_trace_72 : decode cX3_trace 72 = .ok (.ifCond .ne 16, 3) := by decide +kernel
theorem dX3_trace_75 : decode cX3_trace 75 = .ok (.iload_n 2, 1) := by decide +kernel
theorem dX3_trace_76 : decode cX3_trace 76 = .ok (.iload 5, 2) := by decide +kernel
theorem dX3_trace_78 : decode cX3_trace 78 = .ok (.bipush 32, 2) := by decide +kernel
theorem dX3_trace_80 : decode cX3_trace 80 = .ok (.irem, 1) := by decide +kernel
theorem dX3_trace_81 : decode cX3_trace 81 = .ok (.ishr, 1) := by decide +kernel
theorem dX3_trace_82 : decode cX3_trace 82 = .ok (.iconst 1, 1) := by decide +kernel
theorem dX3_trace_83 : decode cX3_trace 83 = .ok (.iand, 1) := by decide +kernel
theorem dX3_trace_84 : decode cX3_trace 84 = .ok (.iconst 1, 1) := by decide +kernel
theorem dX3_trace_85 : decode cX3_trace 85 = .ok (.if_icmp .ne 7, 3) := by decide +kernel
theorem dX3_trace_88 : decode cX3_trace 88 = .ok (.iconst 1, 1) := by decide +kernel
theorem dX3_trace_89 : decode cX3_trace 89 = .ok (.goto 4, 3) := by decide +kernel
theorem dX3_trace_92 : decode cX3_trace 92 = .ok (.iconst 0, 1) := by decide +kernel
theorem dX3_trace_93 : decode cX3_trace 93 = .ok (.invokevirtual 78, 3) := by decide +kernel
theorem dX3_trace_96 : decode cX3_trace 96 = .ok (.istore 4, 2) := by decide +kernel
theorem dX3_trace_98 : decode cX3_trace 98 = .ok (.iinc 5 1, 3) := by decide +kernel
theorem dX3_trace_101 : decode cX3_trace 101 = .ok (.goto (-78), 3) := by decide +kernel
theorem dX3_trace_104 : decode cX3_trace 104 = .ok (.iload 4, 2) := by decide +kernel
theorem dX3_trace_106 : decode cX3_trace 106 = .ok (.ireturn, 1) := by decide +kernel
theorem dL_law_0 : decode code 0 = .ok (.new 8, 3) := by decide +kernel
theorem dL_law_3 : decode code 3 = .ok (.dup, 1) := by decide +kernel
theorem dL_law_4 : decode code 4 = .ok (.invokespecial 23, 3) := by decide +kernel
theorem dL_law_7 : decode code 7 = .ok (.astore_n 1, 1) := by decide +kernel
theorem dL_law_8 : decode code 8 = .ok (.new 24, 3) := by decide +kernel
theorem dL_law_11 : decode code 11 = .ok (.dup, 1) := by decide +kernel
theorem dL_law_12 : decode code 12 = .ok (.invokespecial 26, 3) := by decide +kernel
theorem dL_law_15 : decode code 15 = .ok (.astore_n 2, 1) := by decide +kernel
theorem dL_law_16 : decode code 16 = .ok (.iconst 1, 1) := by decide +kernel
theorem dL_law_17 : decode code 17 = .ok (.newarray .long, 2) := by decide +kernel
theorem dL_law_19 : decode code 19 = .ok (.astore_n 3, 1) := by decide +kernel
theorem dL_law_20 : decode code 20 = .ok (.iconst 0, 1) := by decide +kernel
theorem dL_law_21 : decode code 21 = .ok (.istore 4, 2) := by decide +kernel
theorem dL_law_23 : decode code 23 = .ok (.iload 4, 2) := by decide +kernel
theorem dL_law_25 : decode code 25 = .ok (.aload_n 0, 1) := by decide +kernel
theorem dL_law_26 : decode code 26 = .ok (.arraylength, 1) := by decide +kernel
theorem dL_law_27 : decode code 27 = .ok (.iconst 5, 1) := by decide +kernel
theorem dL_law_28 : decode code 28 = .ok (.isub, 1) := by decide +kernel
theorem dL_law_29 : decode code 29 = .ok (.if_icmp .gt 491, 3) := by decide +kernel
theorem dL_law_32 : decode code 32 = .ok (.aload_n 0, 1) := by decide +kernel
theorem dL_law_33 : decode code 33 = .ok (.iload 4, 2) := by decide +kernel
theorem dL_law_35 : decode code 35 = .ok (.iaload, 1) := by decide +kernel
theorem dL_law_36 : decode code 36 = .ok (.bipush 15, 2) := by decide +kernel
theorem dL_law_38 : decode code 38 = .ok (.iand, 1) := by decide +kernel
theorem dL_law_39 : decode code 39 = .ok (.tableswitch 475 0 11 #[61, 122, 147, 160, 204, 229, 254, 279, 292, 317, 401, 426], 61) := by decide +kernel
theorem dL_law_100 : decode code 100 = .ok (.aload_n 1, 1) := by decide +kernel
theorem dL_law_101 : decode code 101 = .ok (.aload_n 0, 1) := by decide +kernel
theorem dL_law_102 : decode code 102 = .ok (.iload 4, 2) := by decide +kernel
theorem dL_law_104 : decode code 104 = .ok (.iconst 1, 1) := by decide +kernel
theorem dL_law_105 : decode code 105 = .ok (.iadd, 1) := by decide +kernel
theorem dL_law_106 : decode code 106 = .ok (.iaload, 1) := by decide +kernel
theorem dL_law_107 : decode code 107 = .ok (.aload_n 0, 1) := by decide +kernel
theorem dL_law_108 : decode code 108 = .ok (.iload 4, 2) := by decide +kernel
theorem dL_law_110 : decode code 110 = .ok (.iconst 2, 1) := by decide +kernel
theorem dL_law_111 : decode code 111 = .ok (.iadd, 1) := by decide +kernel
theorem dL_law_112 : decode code 112 = .ok (.iaload, 1) := by decide +kernel
theorem dL_law_113 : decode code 113 = .ok (.aload_n 0, 1) := by decide +kernel
theorem dL_law_114 : decode code 114 = .ok (.iload 4, 2) := by decide +kernel
theorem dL_law_116 : decode code 116 = .ok (.iconst 3, 1) := by decide +kernel
theorem dL_law_117 : decode code 117 = .ok (.iadd, 1) := by decide +kernel
theorem dL_law_118 : decode code 118 = .ok (.iaload, 1) := by decide +kernel
theorem dL_law_119 : decode code 119 = .ok (.aload_n 0, 1) := by decide +kernel
theorem dL_law_120 : decode code 120 = .ok (.iload 4, 2) := by decide +kernel
theorem dL_law_122 : decode code 122 = .ok (.iconst 4, 1) := by decide +kernel
theorem dL_law_123 : decode code 123 = .ok (.iadd, 1) := by decide +kernel
theorem dL_law_124 : decode code 124 = .ok (.iaload, 1) := by decide +kernel
theorem dL_law_125 : decode code 125 = .ok (.invokevirtual 27, 3) := by decide +kernel
theorem dL_law_128 : decode code 128 = .ok (.aload_n 2, 1) := by decide +kernel
theorem dL_law_129 : decode code 129 = .ok (.aload_n 0, 1) := by decide +kernel
theorem dL_law_130 : decode code 130 = .ok (.iload 4, 2) := by decide +kernel
theorem dL_law_132 : decode code 132 = .ok (.iconst 1, 1) := by decide +kernel
theorem dL_law_133 : decode code 133 = .ok (.iadd, 1) := by decide +kernel
theorem dL_law_134 : decode code 134 = .ok (.iaload, 1) := by decide +kernel
theorem dL_law_135 : decode code 135 = .ok (.aload_n 0, 1) := by decide +kernel
theorem dL_law_136 : decode code 136 = .ok (.iload 4, 2) := by decide +kernel
theorem dL_law_138 : decode code 138 = .ok (.iconst 2, 1) := by decide +kernel
theorem dL_law_139 : decode code 139 = .ok (.iadd, 1) := by decide +kernel
theorem dL_law_140 : decode code 140 = .ok (.iaload, 1) := by decide +kernel
theorem dL_law_141 : decode code 141 = .ok (.aload_n 0, 1) := by decide +kernel
theorem dL_law_142 : decode code 142 = .ok (.iload 4, 2) := by decide +kernel
theorem dL_law_144 : decode code 144 = .ok (.iconst 3, 1) := by decide +kernel
theorem dL_law_145 : decode code 145 = .ok (.iadd, 1) := by decide +kernel
theorem dL_law_146 : decode code 146 = .ok (.iaload, 1) := by decide +kernel
theorem dL_law_147 : decode code 147 = .ok (.aload_n 0, 1) := by decide +kernel
theorem dL_law_148 : decode code 148 = .ok (.iload 4, 2) := by decide +kernel
theorem dL_law_150 : decode code 150 = .ok (.iconst 4, 1) := by decide +kernel
theorem dL_law_151 : decode code 151 = .ok (.iadd, 1) := by decide +kernel
theorem dL_law_152 : decode code 152 = .ok (.iaload, 1) := by decide +kernel
theorem dL_law_153 : decode code 153 = .ok (.invokevirtual 31, 3) := by decide +kernel
theorem dL_law_156 : decode code 156 = .ok (.if_icmp .eq 358, 3) := by decide +kernel
theorem dL_law_159 : decode code 159 = .ok (.iconst 0, 1) := by decide +kernel
theorem dL_law_160 : decode code 160 = .ok (.ireturn, 1) := by decide +kernel
theorem dL_law_161 : decode code 161 = .ok (.aload_n 1, 1) := by decide +kernel
theorem dL_law_162 : decode code 162 = .ok (.aload_n 0, 1) := by decide +kernel
theorem dL_law_163 : decode code 163 = .ok (.iload 4, 2) := by decide +kernel
theorem dL_law_165 : decode code 165 = .ok (.iconst 1, 1) := by decide +kernel
theorem dL_law_166 : decode code 166 = .ok (.iadd, 1) := by decide +kernel
theorem dL_law_167 : decode code 167 = .ok (.iaload, 1) := by decide +kernel
theorem dL_law_168 : decode code 168 = .ok (.invokevirtual 32, 3) := by decide +kernel
theorem dL_law_171 : decode code 171 = .ok (.aload_n 2, 1) := by decide +kernel
theorem dL_law_172 : decode code 172 = .ok (.aload_n 0, 1) := by decide +kernel
theorem dL_law_173 : decode code 173 = .ok (.iload 4, 2) := by decide +kernel
theorem dL_law_175 : decode code 175 = .ok (.iconst 1, 1) := by decide +kernel
theorem dL_law_176 : decode code 176 = .ok (.iadd, 1) := by decide +kernel
theorem dL_law_177 : decode code 177 = .ok (.iaload, 1) := by decide +kernel
theorem dL_law_178 : decode code 178 = .ok (.invokevirtual 36, 3) := by decide +kernel
theorem dL_law_181 : decode code 181 = .ok (.if_icmp .eq 333, 3) := by decide +kernel
theorem dL_law_184 : decode code 184 = .ok (.iconst 0, 1) := by decide +kernel
theorem dL_law_185 : decode code 185 = .ok (.ireturn, 1) := by decide +kernel
theorem dL_law_186 : decode code 186 = .ok (.aload_n 1, 1) := by decide +kernel
theorem dL_law_187 : decode code 187 = .ok (.invokevirtual 37, 3) := by decide +kernel
theorem dL_law_190 : decode code 190 = .ok (.aload_n 2, 1) := by decide +kernel
theorem dL_law_191 : decode code 191 = .ok (.invokevirtual 40, 3) := by decide +kernel
theorem dL_law_194 : decode code 194 = .ok (.if_icmp .eq 320, 3) := by decide +kernel
theorem dL_law_197 : decode code 197 = .ok (.iconst 0, 1) := by decide +kernel
theorem dL_law_198 : decode code 198 = .ok (.ireturn, 1) := by decide +kernel
theorem dL_law_199 : decode code 199 = .ok (.aload_n 1, 1) := by decide +kernel
theorem dL_law_200 : decode code 200 = .ok (.aload_n 3, 1) := by decide +kernel
theorem dL_law_201 : decode code 201 = .ok (.invokestatic 41, 3) := by decide +kernel
theorem dL_law_204 : decode code 204 = .ok (.istore 5, 2) := by decide +kernel
theorem dL_law_206 : decode code 206 = .ok (.aload_n 2, 1) := by decide +kernel
theorem dL_law_207 : decode code 207 = .ok (.invokevirtual 46, 3) := by decide +kernel
theorem dL_law_210 : decode code 210 = .ok (.istore 6, 2) := by decide +kernel
theorem dL_law_212 : decode code 212 = .ok (.aload_n 2, 1) := by decide +kernel
theorem dL_law_213 : decode code 213 = .ok (.invokevirtual 47, 3) := by decide +kernel
theorem dL_law_216 : decode code 216 = .ok (.iload 5, 2) := by decide +kernel
theorem dL_law_218 : decode code 218 = .ok (.if_icmp .eq 5, 3) := by decide +kernel
theorem dL_law_221 : decode code 221 = .ok (.iconst 0, 1) := by decide +kernel
theorem dL_law_222 : decode code 222 = .ok (.ireturn, 1) := by decide +kernel
theorem dL_law_223 : decode code 223 = .ok (.iload 5, 2) := by decide +kernel
theorem dL_law_225 : decode code 225 = .ok (.ifCond .ne 15, 3) := by decide +kernel
theorem dL_law_228 : decode code 228 = .ok (.aload_n 3, 1) := by decide +kernel
theorem dL_law_229 : decode code 229 = .ok (.iconst 0, 1) := by decide +kernel
theorem dL_law_230 : decode code 230 = .ok (.laload, 1) := by decide +kernel
theorem dL_law_231 : decode code 231 = .ok (.iload 6, 2) := by decide +kernel
theorem dL_law_233 : decode code 233 = .ok (.i2l, 1) := by decide +kernel
theorem dL_law_234 : decode code 234 = .ok (.lcmp, 1) := by decide +kernel
theorem dL_law_235 : decode code 235 = .ok (.ifCond .eq 5, 3) := by decide +kernel
theorem dL_law_238 : decode code 238 = .ok (.iconst 0, 1) := by decide +kernel
theorem dL_law_239 : decode code 239 = .ok (.ireturn, 1) := by decide +kernel
theorem dL_law_240 : decode code 240 = .ok (.goto 274, 3) := by decide +kernel
theorem dL_law_243 : decode code 243 = .ok (.aload_n 1, 1) := by decide +kernel
theorem dL_law_244 : decode code 244 = .ok (.aload_n 0, 1) := by decide +kernel
theorem dL_law_245 : decode code 245 = .ok (.iload 4, 2) := by decide +kernel
theorem dL_law_247 : decode code 247 = .ok (.iconst 1, 1) := by decide +kernel
theorem dL_law_248 : decode code 248 = .ok (.iadd, 1) := by decide +kernel
theorem dL_law_249 : decode code 249 = .ok (.iaload, 1) := by decide +kernel
theorem dL_law_250 : decode code 250 = .ok (.invokevirtual 50, 3) := by decide +kernel
theorem dL_law_253 : decode code 253 = .ok (.aload_n 2, 1) := by decide +kernel
theorem dL_law_254 : decode code 254 = .ok (.aload_n 0, 1) := by decide +kernel
theorem dL_law_255 : decode code 255 = .ok (.iload 4, 2) := by decide +kernel
theorem dL_law_257 : decode code 257 = .ok (.iconst 1, 1) := by decide +kernel
theorem dL_law_258 : decode code 258 = .ok (.iadd, 1) := by decide +kernel
theorem dL_law_259 : decode code 259 = .ok (.iaload, 1) := by decide +kernel
theorem dL_law_260 : decode code 260 = .ok (.invokevirtual 54, 3) := by decide +kernel
theorem dL_law_263 : decode code 263 = .ok (.if_icmp .eq 251, 3) := by decide +kernel
theorem dL_law_266 : decode code 266 = .ok (.iconst 0, 1) := by decide +kernel
theorem dL_law_267 : decode code 267 = .ok (.ireturn, 1) := by decide +kernel
theorem dL_law_268 : decode code 268 = .ok (.aload_n 1, 1) := by decide +kernel
theorem dL_law_269 : decode code 269 = .ok (.aload_n 0, 1) := by decide +kernel
theorem dL_law_270 : decode code 270 = .ok (.iload 4, 2) := by decide +kernel
theorem dL_law_272 : decode code 272 = .ok (.iconst 1, 1) := by decide +kernel
theorem dL_law_273 : decode code 273 = .ok (.iadd, 1) := by decide +kernel
theorem dL_law_274 : decode code 274 = .ok (.iaload, 1) := by decide +kernel
theorem dL_law_275 : decode code 275 = .ok (.invokevirtual 55, 3) := by decide +kernel
theorem dL_law_278 : decode code 278 = .ok (.aload_n 2, 1) := by decide +kernel
theorem dL_law_279 : decode code 279 = .ok (.aload_n 0, 1) := by decide +kernel
theorem dL_law_280 : decode code 280 = .ok (.iload 4, 2) := by decide +kernel
theorem dL_law_282 : decode code 282 = .ok (.iconst 1, 1) := by decide +kernel
theorem dL_law_283 : decode code 283 = .ok (.iadd, 1) := by decide +kernel
theorem dL_law_284 : decode code 284 = .ok (.iaload, 1) := by decide +kernel
theorem dL_law_285 : decode code 285 = .ok (.invokevirtual 58, 3) := by decide +kernel
theorem dL_law_288 : decode code 288 = .ok (.if_icmp .eq 226, 3) := by decide +kernel
theorem dL_law_291 : decode code 291 = .ok (.iconst 0, 1) := by decide +kernel
theorem dL_law_292 : decode code 292 = .ok (.ireturn, 1) := by decide +kernel
theorem dL_law_293 : decode code 293 = .ok (.aload_n 1, 1) := by decide +kernel
theorem dL_law_294 : decode code 294 = .ok (.aload_n 0, 1) := by decide +kernel
theorem dL_law_295 : decode code 295 = .ok (.iload 4, 2) := by decide +kernel
theorem dL_law_297 : decode code 297 = .ok (.iconst 1, 1) := by decide +kernel
theorem dL_law_298 : decode code 298 = .ok (.iadd, 1) := by decide +kernel
theorem dL_law_299 : decode code 299 = .ok (.iaload, 1) := by decide +kernel
theorem dL_law_300 : decode code 300 = .ok (.invokevirtual 59, 3) := by decide +kernel
theorem dL_law_303 : decode code 303 = .ok (.aload_n 2, 1) := by decide +kernel
theorem dL_law_304 : decode code 304 = .ok (.aload_n 0, 1) := by decide +kernel
theorem dL_law_305 : decode code 305 = .ok (.iload 4, 2) := by decide +kernel
theorem dL_law_307 : decode code 307 = .ok (.iconst 1, 1) := by decide +kernel
theorem dL_law_308 : decode code 308 = .ok (.iadd, 1) := by decide +kernel
theorem dL_law_309 : decode code 309 = .ok (.iaload, 1) := by decide +kernel
theorem dL_law_310 : decode code 310 = .ok (.invokevirtual 62, 3) := by decide +kernel
theorem dL_law_313 : decode code 313 = .ok (.if_icmp .eq 201, 3) := by decide +kernel
theorem dL_law_316 : decode code 316 = .ok (.iconst 0, 1) := by decide +kernel
theorem dL_law_317 : decode code 317 = .ok (.ireturn, 1) := by decide +kernel
theorem dL_law_318 : decode code 318 = .ok (.aload_n 1, 1) := by decide +kernel
theorem dL_law_319 : decode code 319 = .ok (.invokevirtual 63, 3) := by decide +kernel
theorem dL_law_322 : decode code 322 = .ok (.aload_n 2, 1) := by decide +kernel
theorem dL_law_323 : decode code 323 = .ok (.invokevirtual 66, 3) := by decide +kernel
theorem dL_law_326 : decode code 326 = .ok (.if_icmp .eq 188, 3) := by decide +kernel
theorem dL_law_329 : decode code 329 = .ok (.iconst 0, 1) := by decide +kernel
theorem dL_law_330 : decode code 330 = .ok (.ireturn, 1) := by decide +kernel
theorem dL_law_331 : decode code 331 = .ok (.aload_n 1, 1) := by decide +kernel
theorem dL_law_332 : decode code 332 = .ok (.aload_n 0, 1) := by decide +kernel
theorem dL_law_333 : decode code 333 = .ok (.iload 4, 2) := by decide +kernel
theorem dL_law_335 : decode code 335 = .ok (.iconst 1, 1) := by decide +kernel
theorem dL_law_336 : decode code 336 = .ok (.iadd, 1) := by decide +kernel
theorem dL_law_337 : decode code 337 = .ok (.iaload, 1) := by decide +kernel
theorem dL_law_338 : decode code 338 = .ok (.invokevirtual 67, 3) := by decide +kernel
theorem dL_law_341 : decode code 341 = .ok (.aload_n 2, 1) := by decide +kernel
theorem dL_law_342 : decode code 342 = .ok (.aload_n 0, 1) := by decide +kernel
theorem dL_law_343 : decode code 343 = .ok (.iload 4, 2) := by decide +kernel
theorem dL_law_345 : decode code 345 = .ok (.iconst 1, 1) := by decide +kernel
theorem dL_law_346 : decode code 346 = .ok (.iadd, 1) := by decide +kernel
theorem dL_law_347 : decode code 347 = .ok (.iaload, 1) := by decide +kernel
theorem dL_law_348 : decode code 348 = .ok (.invokevirtual 70, 3) := by decide +kernel
theorem dL_law_351 : decode code 351 = .ok (.if_icmp .eq 163, 3) := by decide +kernel
theorem dL_law_354 : decode code 354 = .ok (.iconst 0, 1) := by decide +kernel
theorem dL_law_355 : decode code 355 = .ok (.ireturn, 1) := by decide +kernel
theorem dL_law_356 : decode code 356 = .ok (.aload_n 1, 1) := by decide +kernel
theorem dL_law_357 : decode code 357 = .ok (.aload_n 0, 1) := by decide +kernel
theorem dL_law_358 : decode code 358 = .ok (.iload 4, 2) := by decide +kernel
theorem dL_law_360 : decode code 360 = .ok (.iconst 1, 1) := by decide +kernel
theorem dL_law_361 : decode code 361 = .ok (.iadd, 1) := by decide +kernel
theorem dL_law_362 : decode code 362 = .ok (.iaload, 1) := by decide +kernel
theorem dL_law_363 : decode code 363 = .ok (.aload_n 0, 1) := by decide +kernel
theorem dL_law_364 : decode code 364 = .ok (.iload 4, 2) := by decide +kernel
theorem dL_law_366 : decode code 366 = .ok (.iconst 2, 1) := by decide +kernel
theorem dL_law_367 : decode code 367 = .ok (.iadd, 1) := by decide +kernel
theorem dL_law_368 : decode code 368 = .ok (.iaload, 1) := by decide +kernel
theorem dL_law_369 : decode code 369 = .ok (.ifCond .eq 7, 3) := by decide +kernel
theorem dL_law_372 : decode code 372 = .ok (.iconst 1, 1) := by decide +kernel
theorem dL_law_373 : decode code 373 = .ok (.goto 4, 3) := by decide +kernel
theorem dL_law_376 : decode code 376 = .ok (.iconst 0, 1) := by decide +kernel
theorem dL_law_377 : decode code 377 = .ok (.aload_n 3, 1) := by decide +kernel
theorem dL_law_378 : decode code 378 = .ok (.invokestatic 71, 3) := by decide +kernel
theorem dL_law_381 : decode code 381 = .ok (.istore 5, 2) := by decide +kernel
theorem dL_law_383 : decode code 383 = .ok (.aload_n 2, 1) := by decide +kernel
theorem dL_law_384 : decode code 384 = .ok (.aload_n 0, 1) := by decide +kernel
theorem dL_law_385 : decode code 385 = .ok (.iload 4, 2) := by decide +kernel
theorem dL_law_387 : decode code 387 = .ok (.iconst 1, 1) := by decide +kernel
theorem dL_law_388 : decode code 388 = .ok (.iadd, 1) := by decide +kernel
theorem dL_law_389 : decode code 389 = .ok (.iaload, 1) := by decide +kernel
theorem dL_law_390 : decode code 390 = .ok (.aload_n 0, 1) := by decide +kernel
theorem dL_law_391 : decode code 391 = .ok (.iload 4, 2) := by decide +kernel
theorem dL_law_393 : decode code 393 = .ok (.iconst 2, 1) := by decide +kernel
theorem dL_law_394 : decode code 394 = .ok (.iadd, 1) := by decide +kernel
theorem dL_law_395 : decode code 395 = .ok (.iaload, 1) := by decide +kernel
theorem dL_law_396 : decode code 396 = .ok (.ifCond .eq 7, 3) := by decide +kernel
theorem dL_law_399 : decode code 399 = .ok (.iconst 1, 1) := by decide +kernel
theorem dL_law_400 : decode code 400 = .ok (.goto 4, 3) := by decide +kernel
theorem dL_law_403 : decode code 403 = .ok (.iconst 0, 1) := by decide +kernel
theorem dL_law_404 : decode code 404 = .ok (.invokevirtual 74, 3) := by decide +kernel
theorem dL_law_407 : decode code 407 = .ok (.istore 6, 2) := by decide +kernel
theorem dL_law_409 : decode code 409 = .ok (.aload_n 2, 1) := by decide +kernel
theorem dL_law_410 : decode code 410 = .ok (.invokevirtual 47, 3) := by decide +kernel
theorem dL_law_413 : decode code 413 = .ok (.iload 5, 2) := by decide +kernel
theorem dL_law_415 : decode code 415 = .ok (.if_icmp .eq 5, 3) := by decide +kernel
theorem dL_law_418 : decode code 418 = .ok (.iconst 0, 1) := by decide +kernel
theorem dL_law_419 : decode code 419 = .ok (.ireturn, 1) := by decide +kernel
theorem dL_law_420 : decode code 420 = .ok (.iload 5, 2) := by decide +kernel
theorem dL_law_422 : decode code 422 = .ok (.ifCond .ne 15, 3) := by decide +kernel
theorem dL_law_425 : decode code 425 = .ok (.aload_n 3, 1) := by decide +kernel
theorem dL_law_426 : decode code 426 = .ok (.iconst 0, 1) := by decide +kernel
theorem dL_law_427 : decode code 427 = .ok (.laload, 1) := by decide +kernel
theorem dL_law_428 : decode code 428 = .ok (.iload 6, 2) := by decide +kernel
theorem dL_law_430 : decode code 430 = .ok (.i2l, 1) := by decide +kernel
theorem dL_law_431 : decode code 431 = .ok (.lcmp, 1) := by decide +kernel
theorem dL_law_432 : decode code 432 = .ok (.ifCond .eq 5, 3) := by decide +kernel
theorem dL_law_435 : decode code 435 = .ok (.iconst 0, 1) := by decide +kernel
theorem dL_law_436 : decode code 436 = .ok (.ireturn, 1) := by decide +kernel
theorem dL_law_437 : decode code 437 = .ok (.goto 77, 3) := by decide +kernel
theorem dL_law_440 : decode code 440 = .ok (.aload_n 1, 1) := by decide +kernel
theorem dL_law_441 : decode code 441 = .ok (.aload_n 0, 1) := by decide +kernel
theorem dL_law_442 : decode code 442 = .ok (.iload 4, 2) := by decide +kernel
theorem dL_law_444 : decode code 444 = .ok (.iconst 1, 1) := by decide +kernel
theorem dL_law_445 : decode code 445 = .ok (.iadd, 1) := by decide +kernel
theorem dL_law_446 : decode code 446 = .ok (.iaload, 1) := by decide +kernel
theorem dL_law_447 : decode code 447 = .ok (.invokevirtual 75, 3) := by decide +kernel
theorem dL_law_450 : decode code 450 = .ok (.aload_n 2, 1) := by decide +kernel
theorem dL_law_451 : decode code 451 = .ok (.aload_n 0, 1) := by decide +kernel
theorem dL_law_452 : decode code 452 = .ok (.iload 4, 2) := by decide +kernel
theorem dL_law_454 : decode code 454 = .ok (.iconst 1, 1) := by decide +kernel
theorem dL_law_455 : decode code 455 = .ok (.iadd, 1) := by decide +kernel
theorem dL_law_456 : decode code 456 = .ok (.iaload, 1) := by decide +kernel
theorem dL_law_457 : decode code 457 = .ok (.invokevirtual 78, 3) := by decide +kernel
theorem dL_law_460 : decode code 460 = .ok (.if_icmp .eq 54, 3) := by decide +kernel
theorem dL_law_463 : decode code 463 = .ok (.iconst 0, 1) := by decide +kernel
theorem dL_law_464 : decode code 464 = .ok (.ireturn, 1) := by decide +kernel
theorem dL_law_465 : decode code 465 = .ok (.aload_n 1, 1) := by decide +kernel
theorem dL_law_466 : decode code 466 = .ok (.aload_n 0, 1) := by decide +kernel
theorem dL_law_467 : decode code 467 = .ok (.iload 4, 2) := by decide +kernel
theorem dL_law_469 : decode code 469 = .ok (.iconst 1, 1) := by decide +kernel
theorem dL_law_470 : decode code 470 = .ok (.iadd, 1) := by decide +kernel
theorem dL_law_471 : decode code 471 = .ok (.iaload, 1) := by decide +kernel
theorem dL_law_472 : decode code 472 = .ok (.aload_n 0, 1) := by decide +kernel
theorem dL_law_473 : decode code 473 = .ok (.iload 4, 2) := by decide +kernel
theorem dL_law_475 : decode code 475 = .ok (.iconst 2, 1) := by decide +kernel
theorem dL_law_476 : decode code 476 = .ok (.iadd, 1) := by decide +kernel
theorem dL_law_477 : decode code 477 = .ok (.iaload, 1) := by decide +kernel
theorem dL_law_478 : decode code 478 = .ok (.aload_n 0, 1) := by decide +kernel
theorem dL_law_479 : decode code 479 = .ok (.iload 4, 2) := by decide +kernel
theorem dL_law_481 : decode code 481 = .ok (.iconst 3, 1) := by decide +kernel
theorem dL_law_482 : decode code 482 = .ok (.iadd, 1) := by decide +kernel
theorem dL_law_483 : decode code 483 = .ok (.iaload, 1) := by decide +kernel
theorem dL_law_484 : decode code 484 = .ok (.invokevirtual 79, 3) := by decide +kernel
theorem dL_law_487 : decode code 487 = .ok (.aload_n 2, 1) := by decide +kernel
theorem dL_law_488 : decode code 488 = .ok (.aload_n 0, 1) := by decide +kernel
theorem dL_law_489 : decode code 489 = .ok (.iload 4, 2) := by decide +kernel
theorem dL_law_491 : decode code 491 = .ok (.iconst 1, 1) := by decide +kernel
theorem dL_law_492 : decode code 492 = .ok (.iadd, 1) := by decide +kernel
theorem dL_law_493 : decode code 493 = .ok (.iaload, 1) := by decide +kernel
theorem dL_law_494 : decode code 494 = .ok (.aload_n 0, 1) := by decide +kernel
theorem dL_law_495 : decode code 495 = .ok (.iload 4, 2) := by decide +kernel
theorem dL_law_497 : decode code 497 = .ok (.iconst 2, 1) := by decide +kernel
theorem dL_law_498 : decode code 498 = .ok (.iadd, 1) := by decide +kernel
theorem dL_law_499 : decode code 499 = .ok (.iaload, 1) := by decide +kernel
theorem dL_law_500 : decode code 500 = .ok (.aload_n 0, 1) := by decide +kernel
theorem dL_law_501 : decode code 501 = .ok (.iload 4, 2) := by decide +kernel
theorem dL_law_503 : decode code 503 = .ok (.iconst 3, 1) := by decide +kernel
theorem dL_law_504 : decode code 504 = .ok (.iadd, 1) := by decide +kernel
theorem dL_law_505 : decode code 505 = .ok (.iaload, 1) := by decide +kernel
theorem dL_law_506 : decode code 506 = .ok (.invokevirtual 83, 3) := by decide +kernel
theorem dL_law_509 : decode code 509 = .ok (.if_icmp .eq 5, 3) := by decide +kernel
theorem dL_law_512 : decode code 512 = .ok (.iconst 0, 1) := by decide +kernel
theorem dL_law_513 : decode code 513 = .ok (.ireturn, 1) := by decide +kernel
theorem dL_law_514 : decode code 514 = .ok (.iinc 4 5, 3) := by decide +kernel
theorem dL_law_517 : decode code 517 = .ok (.goto (-494), 3) := by decide +kernel
theorem dL_law_520 : decode code 520 = .ok (.iconst 1, 1) := by decide +kernel
theorem dL_law_521 : decode code 521 = .ok (.ireturn, 1) := by decide +kernel
