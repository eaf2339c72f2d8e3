theorem dX0_operationSize_37 : decode cX0_operationSize 37 = .ok (.iconst 3, 1) := by decide +kernel
theorem dX0_operationSize_38 : decode cX0_operationSize 38 = .ok (.istore_n 3, 1) := by decide +kernel
theorem dX0_operationSize_39 : decode cX0_operationSize 39 = .ok (.iload_n 3, 1) := by decide +kernel
theorem dX0_operationSize_40 : decode cX0_operationSize 40 = .ok (.aload_n 0, 1) := by decide +kernel
theorem dX0_operationSize_41 : decode cX0_operationSize 41 = .ok (.invokevirtual 91, 3) := by decide +kernel
theorem dX0_operationSize_44 : decode cX0_operationSize 44 = .ok (.iload_n 1, 1) := by decide +kernel
theorem dX0_operationSize_45 : decode cX0_operationSize 45 = .ok (.isub, 1) := by decide +kernel
theorem dX0_operationSize_46 : decode cX0_operationSize 46 = .ok (.if_icmp .gt 7, 3) := by decide +kernel
theorem dX0_operationSize_49 : decode cX0_operationSize 49 = .ok (.iload_n 3, 1) := by decide +kernel
theorem dX0_operationSize_50 : decode cX0_operationSize 50 = .ok (.goto 4, 3) := by decide +kernel
theorem dX0_operationSize_53 : decode cX0_operationSize 53 = .ok (.iconst 0, 1) := by decide +kernel
theorem dX0_operationSize_54 : decode cX0_operationSize 54 = .ok (.ireturn, 1) := by decide +kernel
theorem dX0_size_0 : decode cX0_size 0 = .ok (.aload_n 0, 1) := by decide +kernel
theorem dX0_size_1 : decode cX0_size 1 = .ok (.getfield 18, 3) := by decide +kernel
theorem dX0_size_4 : decode cX0_size 4 = .ok (.aload_n 0, 1) := by decide +kernel
theorem dX0_size_5 : decode cX0_size 5 = .ok (.getfield 12, 3) := by decide +kernel
theorem dX0_size_8 : decode cX0_size 8 = .ok (.getfield 34, 3) := by decide +kernel
theorem dX0_size_11 : decode cX0_size 11 = .ok (.iaload, 1) := by decide +kernel
theorem dX0_size_12 : decode cX0_size 12 = .ok (.ireturn, 1) := by decide +kernel
theorem dX2_trace_0 : decode cX2_trace 0 = .ok (.iload_n 3, 1) := by decide +kernel
theorem dX2_trace_1 : decode cX2_trace 1 = .ok (.ifCond .lt 9, 3) := by decide +kernel
theorem dX2_trace_4 : decode cX2_trace 4 = .ok (.iload_n 3, 1) := by decide +kernel
theorem dX2_trace_5 : decode cX2_trace 5 = .ok (.bipush 40, 2) := by decide +kernel
theorem dX2_trace_7 : decode cX2_trace 7 = .ok (.if_icmp .le 5, 3) := by decide +kernel
theorem dX2_trace_10 : decode cX2_trace 10 = .ok (.iconst (-1), 1) := by decide +kernel
theorem dX2_trace_11 : decode cX2_trace 11 = .ok (.ireturn, 1) := by decide +kernel
theorem dX2_trace_12 : decode cX2_trace 12 = .ok (.iload_n 1, 1) := by decide +kernel
theorem dX2_trace_13 : decode cX2_trace 13 = .ok (.istore 4, 2) := by decide +kernel
theorem dX2_trace_15 : decode cX2_trace 15 = .ok (.iconst 0, 1) := by decide +kernel
theorem dX2_trace_16 : decode cX2_trace 16 = .ok (.istore 5, 2) := by decide +kernel
theorem dX2_trace_18 : decode cX2_trace 18 = .ok (.iload 5, 2) := by decide +kernel
theorem dX2_trace_20 : decode cX2_trace 20 = .ok (.iload_n 3, 1) := by decide +kernel
theorem dX2_trace_21 : decode cX2_trace 21 = .ok (.if_icmp .ge 86, 3) := by decide +kernel
theorem dX2_trace_24 : decode cX2_trace 24 = .ok (.aload_n 0, 1) := by decide +kernel
theorem dX2_trace_25 : decode cX2_trace 25 = .ok (.getfield 19, 3) := by decide +kernel
theorem dX2_trace_28 : decode cX2_trace 28 = .ok (.iload 4, 2) := by decide +kernel
theorem dX2_trace_30 : decode cX2_trace 30 = .ok (.invokevirtual 92, 3) := by decide +kernel
theorem dX2_trace_33 : decode cX2_trace 33 = .ok (.istore 6, 2) := by decide +kernel
theorem dX2_trace_35 : decode cX2_trace 35 = .ok (.iload 6, 2) := by decide +kernel
theorem dX2_trace_37 : decode cX2_trace 37 = .ok (.ifCond .ne 6, 3) := by decide +kernel
theorem dX2_trace_40 : decode cX2_trace 40 = .ok (.iload 4, 2) := by decide +kernel
theorem dX2_trace_42 : decode cX2_trace 42 = .ok (.ireturn, 1) := by decide +kernel
theorem dX2_trace_43 : decode cX2_trace 43 = .ok (.iload_n 2, 1) := by decide +kernel
theorem dX2_trace_44 : decode cX2_trace 44 = .ok (.iload 5, 2) := by decide +kernel
theorem dX2_trace_46 : decode cX2_trace 46 = .ok (.bipush 32, 2) := by decide +kernel
theorem dX2_trace_48 : decode cX2_trace 48 = .ok (.irem, 1) := by decide +kernel
theorem dX2_trace_49 : decode cX2_trace 49 = .ok (.iushr, 1) := by decide +kernel
theorem dX2_trace_50 : decode cX2_trace 50 = .ok (.iconst 1, 1) := by decide +kernel
theorem dX2_trace_51 : decode cX2_trace 51 = .ok (.iand, 1) := by decide +kernel
theorem dX2_trace_52 : decode cX2_trace 52 = .ok (.iconst 1, 1) := by decide +kernel
theorem dX2_trace_53 : decode cX2_trace 53 = .ok (.if_icmp .eq 15, 3) := by decide +kernel
theorem dX2_trace_56 : decode cX2_trace 56 = .ok (.aload_n 0, 1) := by decide +kernel
theorem dX2_trace_57 : decode cX2_trace 57 = .ok (.getfield 19, 3) := by decide +kernel
theorem dX2_trace_60 : decode cX2_trace 60 = .ok (.iload 4, 2) := by decide +kernel
theorem dX2_trace_62 : decode cX2_trace 62 = .ok (.invokevirtual 104, 3) := by decide +kernel
theorem dX2_trace_65 : decode cX2_trace 65 = .ok (.ifCond .eq 7, 3) := by decide +kernel
theorem dX2_trace_68 : decode cX2_trace 68 = .ok (.iconst 1, 1) := by decide +kernel
theorem dX2_trace_69 : decode cX2_trace 69 = .ok (.goto 4, 3) := by decide +kernel
theorem dX2_trace_72 : decode cX2_trace 72 = .ok (.iconst 0, 1) := by decide +kernel
theorem dX2_trace_73 : decode cX2_trace 73 = .ok (.istore 7, 2) := by decide +kernel
theorem dX2_trace_75 : decode cX2_trace 75 = .ok (.iload 7, 2) := by decide +kernel
theorem dX2_trace_77 : decode cX2_trace 77 = .ok (.ifCond .eq 17, 3) := by decide +kernel
theorem dX2_trace_80 : decode cX2_trace 80 = .ok (.aload_n 0, 1) := by decide +kernel
theorem dX2_trace_81 : decode cX2_trace 81 = .ok (.getfield 19, 3) := by decide +kernel
theorem dX2_trace_84 : decode cX2_trace 84 = .ok (.iload 4, 2) := by decide +kernel
theorem dX2_trace_86 : decode cX2_trace 86 = .ok (.iload 6, 2) := by decide +kernel
theorem dX2_trace_88 : decode cX2_trace 88 = .ok (.invokevirtual 100, 3) := by decide +kernel
theorem dX2_trace_91 : decode cX2_trace 91 = .ok (.goto 8, 3) := by decide +kernel
theorem dX2_trace_94 : decode cX2_trace 94 = .ok (.iload 4, 2) := by decide +kernel
theorem dX2_trace_96 : decode cX2_trace 96 = .ok (.iload 6, 2) := by decide +kernel
theorem dX2_trace_98 : decode cX2_trace 98 = .ok (.iadd, 1) := by decide +kernel
theorem dX2_trace_99 : decode cX2_trace 99 = .ok (.istore 4, 2) := by decide +kernel
theorem dX2_trace_101 : decode cX2_trace 101 = .ok (.iinc 5 1, 3) := by decide +kernel
theorem dX2_trace_104 : decode cX2_trace 104 = .ok (.goto (-86), 3) := by decide +kernel
theorem dX2_trace_107 : decode cX2_trace 107 = .ok (.iload 4, 2) := by decide +kernel
theorem dX2_trace_109 : decode cX2_trace 109 = .ok (.ireturn, 1) := by decide +kernel
theorem dX0_goesAlways_0 : decode cX0_goesAlways 0 = .ok (.aload_n 0, 1) := by decide +kernel
theorem dX0_goesAlways_1 : decode cX0_goesAlways 1 = .ok (.iload_n 1, 1) := by decide +kernel
theorem dX0_goesAlways_2 : decode cX0_goesAlways 2 = .ok (.invokevirtual 88, 3) := by decide +kernel
theorem dX0_goesAlways_5 : decode cX0_goesAlways 5 = .ok (.istore_n 2, 1) := by decide +kernel
theorem dX0_goesAlways_6 : decode cX0_goesAlways 6 = .ok (.iload_n 2, 1) := by decide +kernel
theorem dX0_goesAlways_7 : decode cX0_goesAlways 7 = .ok (.bipush 32, 2) := by decide +kernel
theorem dX0_goesAlways_9 : decode cX0_goesAlways 9 = .ok (.if_icmp .eq 9, 3) := by decide +kernel
theorem dX0_goesAlways_12 : decode cX0_goesAlways 12 = .ok (.iload_n 2, 1) := by decide +kernel
theorem dX0_goesAlways_13 : decode cX0_goesAlways 13 = .ok (.bipush 64, 2) := by decide +kernel
theorem dX0_goesAlways_15 : decode cX0_goesAlways 15 = .ok (.if_icmp .ne 7, 3) := by decide +kernel
theorem dX0_goesAlways_18 : decode cX0_goesAlways 18 = .ok (.iconst 1, 1) := by decide +kernel
theorem dX0_goesAlways_19 : decode cX0_goesAlways 19 = .ok (.goto 4, 3) := by decide +kernel
theorem dX0_goesAlways_22 : decode cX0_goesAlways 22 = .ok (.iconst 0, 1) := by decide +kernel
theorem dX0_goesAlways_23 : decode cX0_goesAlways 23 = .ok (.ireturn, 1) := by decide +kernel
theorem dX0_target_0 : decode cX0_target 0 = .ok (.iload_n 1, 1) := by decide +kernel
theorem dX0_target_1 : decode cX0_target 1 = .ok (.iload_n 2, 1) := by decide +kernel
theorem dX0_target_2 : decode cX0_target 2 = .ok (.iadd, 1) := by decide +kernel
theorem dX0_target_3 : decode cX0_target 3 = .ok (.istore_n 3, 1) := by decide +kernel
theorem dX0_target_4 : decode cX0_target 4 = .ok (.iload_n 2, 1) := by decide +kernel
theorem dX0_target_5 : decode cX0_target 5 = .ok (.iconst 2, 1) := by decide +kernel
theorem dX0_target_6 : decode cX0_target 6 = .ok (.if_icmp .ne 14, 3) := by decide +kernel
theorem dX0_target_9 : decode cX0_target 9 = .ok (.iload_n 3, 1) := by decide +kernel
theorem dX0_target_10 : decode cX0_target 10 = .ok (.aload_n 0, 1) := by decide +kernel
theorem dX0_target_11 : decode cX0_target 11 = .ok (.iload_n 1, 1) := by decide +kernel
theorem dX0_target_12 : decode cX0_target 12 = .ok (.iconst 1, 1) := by decide +kernel
theorem dX0_target_13 : decode cX0_target 13 = .ok (.iadd, 1) := by decide +kernel
theorem dX0_target_14 : decode cX0_target 14 = .ok (.invokevirtual 88, 3) := by decide +kernel
theorem dX0_target_17 : decode cX0_target 17 = .ok (.i2b, 1) := by decide +kernel
theorem dX0_target_18 : decode cX0_target 18 = .ok (.iadd, 1) := by decide +kernel
theorem dX0_target_19 : decode cX0_target 19 = .ok (.ireturn, 1) := by decide +kernel
theorem dX0_target_20 : decode cX0_target 20 = .ok (.iload_n 2, 1) := by decide +kernel
theorem dX0_target_21 : decode cX0_target 21 = .ok (.iconst 3, 1) := by decide +kernel
theorem dX0_target_22 : decode cX0_target 22 = .ok (.if_icmp .ne 26, 3) := by decide +kernel
theorem dX0_target_25 : decode cX0_target 25 = .ok (.iload_n 3, 1) := by decide +kernel
theorem dX0_target_26 : decode cX0_target 26 = .ok (.aload_n 0, 1) := by decide +kernel
theorem dX0_target_27 : decode cX0_target 27 = .ok (.iload_n 1, 1) := by decide +kernel
theorem dX0_target_28 : decode cX0_target 28 = .ok (.iconst 1, 1) := by decide +kernel
theorem dX0_target_29 : decode cX0_target 29 = .ok (.iadd, 1) := by decide +kernel
theorem dX0_target_30 : decode cX0_target 30 = .ok (.invokevirtual 88, 3) := by decide +kernel
theorem dX0_target_33 : decode cX0_target 33 = .ok (.sipush 256, 3) := by decide +kernel
theorem dX0_target_36 : decode cX0_target 36 = .ok (.imul, 1) := by decide +kernel
theorem dX0_target_37 : decode cX0_target 37 = .ok (.aload_n 0, 1) := by decide +kernel
theorem dX0_target_38 : decode cX0_target 38 = .ok (.iload_n 1, 1) := by decide +kernel
theorem dX0_target_39 : decode cX0_target 39 = .ok (.iconst 2, 1) := by decide +kernel
theorem dX0_target_40 : decode cX0_target 40 = .ok (.iadd, 1) := by decide +kernel
theorem dX0_target_41 : decode cX0_target 41 = .ok (.invokevirtual 88, 3) := by decide +kernel
theorem dX0_target_44 : decode cX0_target 44 = .ok (.iadd, 1) := by decide +kernel
theorem dX0_target_45 : decode cX0_target 45 = .ok (.i2s, 1) := by decide +kernel
theorem dX0_target_46 : decode cX0_target 46 = .ok (.iadd, 1) := by decide +kernel
theorem dX0_target_47 : decode cX0_target 47 = .ok (.ireturn, 1) := by decide +kernel
theorem dX0_target_48 : decode cX0_target 48 = .ok (.iload_n 3, 1) := by decide +kernel
theorem dX0_target_49 : decode cX0_target 49 = .ok (.ireturn, 1) := by decide +kernel
theorem dL_assemble_0 : decode cL_assemble 0 = .ok (.aload_n 1, 1) := by decide +kernel
theorem dL_assemble_1 : decode cL_assemble 1 = .ok (.iconst 0, 1) := by decide +kernel
theorem dL_assemble_2 : decode cL_assemble 2 = .ok (.aload_n 0, 1) := by decide +kernel
theorem dL_assemble_3 : decode cL_assemble 3 = .ok (.invokevirtual 7, 3) := by decide +kernel
theorem dL_assemble_6 : decode cL_assemble 6 = .ok (.i2l, 1) := by decide +kernel
theorem dL_assemble_7 : decode cL_assemble 7 = .ok (.lastore, 1) := by decide +kernel
theorem dL_assemble_8 : decode cL_assemble 8 = .ok (.goto 9, 3) := by decide +kernel
theorem dL_assemble_11 : decode cL_assemble 11 = .ok (.astore_n 2, 1) := by decide +kernel
theorem dL_assemble_12 : decode cL_assemble 12 = .ok (.iconst 1, 1) := by decide +kernel
theorem dL_assemble_13 : decode cL_assemble 13 = .ok (.ireturn, 1) := by decide +kernel
theorem dL_assemble_14 : decode cL_assemble 14 = .ok (.astore_n 2, 1) := by decide +kernel
theorem dL_assemble_15 : decode cL_assemble 15 = .ok (.iconst 2, 1) := by decide +kernel
theorem dL_assemble_16 : decode cL_assemble 16 = .ok (.ireturn, 1) := by decide +kernel
theorem dL_assemble_17 : decode cL_assemble 17 = .ok (.iconst 0, 1) := by decide +kernel
theorem dL_assemble_18 : decode cL_assemble 18 = .ok (.ireturn, 1) := by decide +kernel
theorem dX2_assemble_0 : decode cX2_assemble 0 = .ok (.aload_n 0, 1) := by decide +kernel
theorem dX2_assemble_1 : decode cX2_assemble 1 = .ok (.getfield 10, 3) := by decide +kernel
theorem dX2_assemble_4 : decode cX2_assemble 4 = .ok (.invokevirtual 39, 3) := by decide +kernel
theorem dX2_assemble_7 : decode cX2_assemble 7 = .ok (.ifCond .eq 13, 3) := by decide +kernel
theorem dX2_assemble_10 : decode cX2_assemble 10 = .ok (.new 43, 3) := by decide +kernel
theorem dX2_assemble_13 : decode cX2_assemble 13 = .ok (.dup, 1) := by decide +kernel
theorem dX2_assemble_14 : decode cX2_assemble 14 = .ok (.ldc 45, 2) := by decide +kernel
theorem dX2_assemble_16 : decode cX2_assemble 16 = .ok (.invokespecial 47, 3) := by decide +kernel
theorem dX2_assemble_19 : decode cX2_assemble 19 = .ok (.athrow, 1) := by decide +kernel
theorem dX2_assemble_20 : decode cX2_assemble 20 = .ok (.aload_n 0, 1) := by decide +kernel
theorem dX2_assemble_21 : decode cX2_assemble 21 = .ok (.getfield 10, 3) := by decide +kernel
theorem dX2_assemble_24 : decode cX2_assemble 24 = .ok (.invokevirtual 50, 3) := by decide +kernel
theorem dX2_assemble_27 : decode cX2_assemble 27 = .ok (.ifCond .eq 13, 3) := by decide +kernel
theorem dX2_assemble_30 : decode cX2_assemble 30 = .ok (.new 53, 3) := by decide +kernel
theorem dX2_assemble_33 : decode cX2_assemble 33 = .ok (.dup, 1) := by decide +kernel
theorem dX2_assemble_34 : decode cX2_assemble 34 = .ok (.ldc 55, 2) := by decide +kernel
theorem dX2_assemble_36 : decode cX2_assemble 36 = .ok (.invokespecial 57, 3) := by decide +kernel
theorem dX2_assemble_39 : decode cX2_assemble 39 = .ok (.athrow, 1) := by decide +kernel
theorem dX2_assemble_40 : decode cX2_assemble 40 = .ok (.aload_n 0, 1) := by decide +kernel
theorem dX2_assemble_41 : decode cX2_assemble 41 = .ok (.getfield 19, 3) := by decide +kernel
theorem dX2_assemble_44 : decode cX2_assemble 44 = .ok (.aload_n 0, 1) := by decide +kernel
theorem dX2_assemble_45 : decode cX2_assemble 45 = .ok (.getfield 10, 3) := by decide +kernel
theorem dX2_assemble_48 : decode cX2_assemble 48 = .ok (.invokevirtual 58, 3) := by decide +kernel
theorem dX2_assemble_51 : decode cX2_assemble 51 = .ok (.aload_n 0, 1) := by decide +kernel
theorem dX2_assemble_52 : decode cX2_assemble 52 = .ok (.getfield 19, 3) := by decide +kernel
theorem dX2_assemble_55 : decode cX2_assemble 55 = .ok (.invokevirtual 62, 3) := by decide +kernel
theorem dX2_assemble_58 : decode cX2_assemble 58 = .ok (.ireturn, 1) := by decide +kernel
theorem dX1_definesTwice_0 : decode cX1_definesTwice 0 = .ok (.iconst 0, 1) := by decide +kernel
theorem dX1_definesTwice_1 : decode cX1_definesTwice 1 = .ok (.istore_n 1, 1) := by decide +kernel
theorem dX1_definesTwice_2 : decode cX1_definesTwice 2 = .ok (.iload_n 1, 1) := by decide +kernel
theorem dX1_definesTwice_3 : decode cX1_definesTwice 3 = .ok (.bipush 16, 2) := by decide +kernel
theorem dX1_definesTwice_5 : decode cX1_definesTwice 5 = .ok (.if_icmp .ge 20, 3) := by decide +kernel
theorem dX1_definesTwice_8 : decode cX1_definesTwice 8 = .ok (.aload_n 0, 1) := by decide +kernel
theorem dX1_definesTwice_9 : decode cX1_definesTwice 9 = .ok (.iload_n 1, 1) := by decide +kernel
theorem dX1_definesTwice_10 : decode cX1_definesTwice 10 = .ok (.invokevirtual 39, 3) := by decide +kernel
theorem dX1_definesTwice_13 : decode cX1_definesTwice 13 = .ok (.iconst 1, 1) := by decide +kernel
theorem dX1_definesTwice_14 : decode cX1_definesTwice 14 = .ok (.if_icmp .le 5, 3) := by decide +kernel
theorem dX1_definesTwice_17 : decode cX1_definesTwice 17 = .ok (.iconst 1, 1) := by decide +kernel
theorem dX1_definesTwice_18 : decode cX1_definesTwice 18 = .ok (.ireturn, 1) := by decide +kernel
theorem dX1_definesTwice_19 : decode cX1_definesTwice 19 = .ok (.iinc 1 1, 3) := by decide +kernel
theorem dX1_definesTwice_22 : decode cX1_definesTwice 22 = .ok (.goto (-20), 3) := by decide +kernel
theorem dX1_definesTwice_25 : decode cX1_definesTwice 25 = .ok (.iconst 0, 1) := by decide +kernel
theorem dX1_definesTwice_26 : decode cX1_definesTwice 26 = .ok (.ireturn, 1) := by decide +kernel
theorem dX1_countDefined_0 : decode cX1_countDefined 0 = .ok (.iconst 0, 1) := by decide +kernel
theorem dX1_countDefined_1 : decode cX1_countDefined 1 = .ok (.istore_n 2, 1) := by decide +kernel
theorem dX1_countDefined_2 : decode cX1_countDefined 2 = .ok (.iconst 0, 1) := by decide +kernel
theorem dX1_countDefined_3 : decode cX1_countDefined 3 = .ok (.istore_n 3, 1) := by decide +kernel
theorem dX1_countDefined_4 : decode cX1_countDefined 4 = .ok (.iload_n 3, 1) := by decide +kernel
theorem dX1_countDefined_5 : decode cX1_countDefined 5 = .ok (.aload_n 0, 1) := by decide +kernel
theorem dX1_countDefined_6 : decode cX1_countDefined 6 = .ok (.getfield 21, 3) := by decide +kernel
theorem dX1_countDefined_9 : decode cX1_countDefined 9 = .ok (.if_icmp .ge 31, 3) := by decide +kernel
theorem dX1_countDefined_12 : decode cX1_countDefined 12 = .ok (.aload_n 0, 1) := by decide +kernel
theorem dX1_countDefined_13 : decode cX1_countDefined 13 = .ok (.getfield 9, 3) := by decide +kernel
theorem dX1_countDefined_16 : decode cX1_countDefined 16 = .ok (.iload_n 3, 1) := by decide +kernel
theorem dX1_countDefined_17 : decode cX1_countDefined 17 = .ok (.iaload, 1) := by decide +kernel
theorem dX1_countDefined_18 : decode cX1_countDefined 18 = .ok (.ifCond .ne 16, 3) := by decide +kernel
theorem dX1_countDefined_21 : decode cX1_countDefined 21 = .ok (.aload_n 0, 1) := by decide +kernel
theorem dX1_countDefined_22 : decode cX1_countDefined 22 = .ok (.getfield 15, 3) := by decide +kernel
theorem dX1_countDefined_25 : decode cX1_countDefined 25 = .ok (.iload_n 3, 1) := by decide +kernel
theorem dX1_countDefined_26 : decode cX1_countDefined 26 = .ok (.iaload, 1) := by decide +kernel
theorem dX1_countDefined_27 : decode cX1_countDefined 27 = .ok (.iload_n 1, 1) := by decide +kernel
theorem dX1_countDefined_28 : decode cX1_countDefined 28 = .ok (.if_icmp .ne 6, 3) := by decide +kernel
theorem dX1_countDefined_31 : decode cX1_countDefined 31 = .ok (.iinc 2 1, 3) := by decide +kernel
theorem dX1_countDefined_34 : decode cX1_countDefined 34 = .ok (.iinc 3 1, 3) := by decide +kernel
theorem dX1_countDefined_37 : decode cX1_countDefined 37 = .ok (.goto (-33), 3) := by decide +kernel
theorem dX1_countDefined_40 : decode cX1_countDefined 40 = .ok (.iload_n 2, 1) := by decide +kernel
theorem dX1_countDefined_41 : decode cX1_countDefined 41 = .ok (.ireturn, 1) := by decide +kernel
theorem dX1_namesUndefined_0 : decode cX1_namesUndefined 0 = .ok (.iconst 0, 1) := by decide +kernel
theorem dX1_namesUndefined_1 : decode cX1_namesUndefined 1 = .ok (.istore_n 1, 1) := by decide +kernel
theorem dX1_namesUndefined_2 : decode cX1_namesUndefined 2 = .ok (.iload_n 1, 1) := by decide +kernel
theorem dX1_namesUndefined_3 : decode cX1_namesUndefined 3 = .ok (.aload_n 0, 1) := by decide +kernel
theorem dX1_namesUndefined_4 : decode cX1_namesUndefined 4 = .ok (.getfield 21, 3) := by decide +kernel
theorem dX1_namesUndefined_7 : decode cX1_namesUndefined 7 = .ok (.if_icmp .ge 54, 3) := by decide +kernel
theorem dX1_namesUndefined_10 : decode cX1_namesUndefined 10 = .ok (.aload_n 0, 1) := by decide +kernel
theorem dX1_namesUndefined_11 : decode cX1_namesUndefined 11 = .ok (.getfield 9, 3) := by decide +kernel
theorem dX1_namesUndefined_14 : decode cX1_namesUndefined 14 = .ok (.iload_n 1, 1) := by decide +kernel
theorem dX1_namesUndefined_15 : decode cX1_namesUndefined 15 = .ok (.iaload, 1) := by decide +kernel
theorem dX1_namesUndefined_16 : decode cX1_namesUndefined 16 = .ok (.iconst 2, 1) := by decide +kernel
theorem dX1_namesUndefined_17 : decode cX1_namesUndefined 17 = .ok (.if_icmp .eq 13, 3) := by decide +kernel
theorem dX1_namesUndefined_20 : decode cX1_namesUndefined 20 = .ok (.aload_n 0, 1) := by decide +kernel
theorem dX1_namesUndefined_21 : decode cX1_namesUndefined 21 = .ok (.getfield 9, 3) := by decide +kernel
theorem dX1_namesUndefined_24 : decode cX1_namesUndefined 24 = .ok (.iload_n 1, 1) := by decide +kernel
theorem dX1_namesUndefined_25 : decode cX1_namesUndefined 25 = .ok (.iaload, 1) := by decide +kernel
theorem dX1_namesUndefined_26 : decode cX1_namesUndefined 26 = .ok (.iconst 3, 1) := by decide +kernel
theorem dX1_namesUndefined_27 : decode cX1_namesUndefined 27 = .ok (.if_icmp .ne 7, 3) := by decide +kernel
theorem dX1_namesUndefined_30 : decode cX1_namesUndefined 30 = .ok (.iconst 1, 1) := by decide +kernel
theorem dX1_namesUndefined_31 : decode cX1_namesUndefined 31 = .ok (.goto 4, 3) := by decide +kernel
theorem dX1_namesUndefined_34 : decode cX1_namesUndefined 34 = .ok (.iconst 0, 1) := by decide +kernel
theorem dX1_namesUndefined_35 : decode cX1_namesUndefined 35 = .ok (.istore_n 2, 1) := by decide +kernel
theorem dX1_namesUndefined_36 : decode cX1_namesUndefined 36 = .ok (.iload_n 2, 1) := by decide +kernel
theorem dX1_namesUndefined_37 : decode cX1_namesUndefined 37 = .ok (.ifCond .eq 18, 3) := by decide +kernel
theorem dX1_namesUndefined_40 : decode cX1_namesUndefined 40 = .ok (.aload_n 0, 1) := by decide +kernel
theorem dX1_namesUndefined_41 : decode cX1_namesUndefined 41 = .ok (.aload_n 0, 1) := by decide +kernel
theorem dX1_namesUndefined_42 : decode cX1_namesUndefined 42 = .ok (.getfield 15, 3) := by decide +kernel
theorem dX1_namesUndefined_45 : decode cX1_namesUndefined 45 = .ok (.iload_n 1, 1) := by decide +kernel
theorem dX1_namesUndefined_46 : decode cX1_namesUndefined 46 = .ok (.iaload, 1) := by decide +kernel
theorem dX1_namesUndefined_47 : decode cX1_namesUndefined 47 = .ok (.invokevirtual 39, 3) := by decide +kernel
theorem dX1_namesUndefined_50 : decode cX1_namesUndefined 50 = .ok (.ifCond .ne 5, 3) := by decide +kernel
theorem dX1_namesUndefined_53 : decode cX1_namesUndefined 53 = .ok (.iconst 1, 1) := by decide +kernel
theorem dX1_namesUndefined_54 : decode cX1_namesUndefined 54 = .ok (.ireturn, 1) := by decide +kernel
theorem dX1_namesUndefined_55 : decode cX1_namesUndefined 55 = .ok (.iinc 1 1, 3) := by decide +kernel
theorem dX1_namesUndefined_58 : decode cX1_namesUndefined 58 = .ok (.goto (-56), 3) := by decide +kernel
theorem dX1_namesUndefined_61 : decode cX1_namesUndefined 61 = .ok (.iconst 0, 1) := by decide +kernel
theorem dX1_namesUndefined_62 : decode cX1_namesUndefined 62 = .ok (.ireturn, 1) := by decide +kernel
theorem dX0_make_0 : decode cX0_make 0 = .ok (.aload_n 0, 1) := by decide +kernel
theorem dX0_make_1 : decode cX0_make 1 = .ok (.getfield 12, 3) := by decide +kernel
theorem dX0_make_4 : decode cX0_make 4 = .ok (.aload_n 1, 1) := by decide +kernel
theorem dX0_make_5 : decode cX0_make 5 = .ok (.invokevirtual 38, 3) := by decide +kernel
theorem dX0_make_8 : decode cX0_make 8 = .ok (.aload_n 0, 1) := by decide +kernel
theorem dX0_make_9 : decode cX0_make 9 = .ok (.invokevirtual 42, 3) := by decide +kernel
theorem dX0_make_12 : decode cX0_make 12 = .ok (.aload_n 0, 1) := by decide +kernel
theorem dX0_make_13 : decode cX0_make 13 = .ok (.invokevirtual 45, 3) := by decide +kernel
theorem dX0_make_16 : decode cX0_make 16 = .ok (.iconst 0, 1) := by decide +kernel
theorem dX0_make_17 : decode cX0_make 17 = .ok (.istore_n 2, 1) := by decide +kernel
theorem dX0_make_18 : decode cX0_make 18 = .ok (.iload_n 2, 1) := by decide +kernel
theorem dX0_make_19 : decode cX0_make 19 = .ok (.bipush 50, 2) := by decide +kernel
theorem dX0_make_21 : decode cX0_make 21 = .ok (.if_icmp .ge 20, 3) := by decide +kernel
theorem dX0_make_24 : decode cX0_make 24 = .ok (.aload_n 0, 1) := by decide +kernel
theorem dX0_make_25 : decode cX0_make 25 = .ok (.invokevirtual 48, 3) := by decide +kernel
theorem dX0_make_28 : decode cX0_make 28 = .ok (.ifCond .eq 13, 3) := by decide +kernel
theorem dX0_make_31 : decode cX0_make 31 = .ok (.aload_n 0, 1) := by decide +kernel
theorem dX0_make_32 : decode cX0_make 32 = .ok (.invokevirtual 45, 3) := by decide +kernel
theorem dX0_make_35 : decode cX0_make 35 = .ok (.iinc 2 1, 3) := by decide +kernel
theorem dX0_make_38 : decode cX0_make 38 = .ok (.goto (-20), 3) := by decide +kernel
theorem dX0_make_41 : decode cX0_make 41 = .ok (.return_, 1) := by decide +kernel
theorem dX1_copyFrom_0 : decode cX1_copyFrom 0 = .ok (.aload_n 1, 1) := by decide +kernel
theorem dX1_copyFrom_1 : decode cX1_copyFrom 1 = .ok (.getfield 9, 3) := by decide +kernel
theorem dX1_copyFrom_4 : decode cX1_copyFrom 4 = .ok (.iconst 0, 1) := by decide +kernel
theorem dX1_copyFrom_5 : decode cX1_copyFrom 5 = .ok (.aload_n 0, 1) := by decide +kernel
theorem dX1_copyFrom_6 : decode cX1_copyFrom 6 = .ok (.getfield 9, 3) := by decide +kernel
theorem dX1_copyFrom_9 : decode cX1_copyFrom 9 = .ok (.iconst 0, 1) := by decide +kernel
theorem dX1_copyFrom_10 : decode cX1_copyFrom 10 = .ok (.aload_n 1, 1) := by decide +kernel
theorem dX1_copyFrom_11 : decode cX1_copyFrom 11 = .ok (.getfield 21, 3) := by decide +kernel
theorem dX1_copyFrom_14 : decode cX1_copyFrom 14 = .ok (.invokestatic 33, 3) := by decide +kernel
theorem dX1_copyFrom_17 : decode cX1_copyFrom 17 = .ok (.aload_n 1, 1) := by decide +kernel
theorem dX1_copyFrom_18 : decode cX1_copyFrom 18 = .ok (.getfield 15, 3) := by decide +kernel
theorem dX1_copyFrom_21 : decode cX1_copyFrom 21 = .ok (.iconst 0, 1) := by decide +kernel
theorem dX1_copyFrom_22 : decode cX1_copyFrom 22 = .ok (.aload_n 0, 1) := by decide +kernel
theorem dX1_copyFrom_23 : decode cX1_copyFrom 23 = .ok (.getfield 15, 3) := by decide +kernel
theorem dX1_copyFrom_26 : decode cX1_copyFrom 26 = .ok (.iconst 0, 1) := by decide +kernel
theorem dX1_copyFrom_27 : decode cX1_copyFrom 27 = .ok (.aload_n 1, 1) := by decide +kernel
theorem dX1_copyFrom_28 : decode cX1_copyFrom 28 = .ok (.getfield 21, 3) := by decide +kernel
theorem dX1_copyFrom_31 : decode cX1_copyFrom 31 = .ok (.invokestatic 33, 3) := by decide +kernel
theorem dX1_copyFrom_34 : decode cX1_copyFrom 34 = .ok (.aload_n 1, 1) := by decide +kernel
theorem dX1_copyFrom_35 : decode cX1_copyFrom 35 = .ok (.getfield 18, 3) := by decide +kernel
theorem dX1_copyFrom_38 : decode cX1_copyFrom 38 = .ok (.iconst 0, 1) := by decide +kernel
theorem dX1_copyFrom_39 : decode cX1_copyFrom 39 = .ok (.aload_n 0, 1) := by decide +kernel
theorem dX1_copyFrom_40 : decode cX1_copyFrom 40 = .ok (.getfield 18, 3) := by decide +kernel
theorem dX1_copyFrom_43 : decode cX1_copyFrom 43 = .ok (.iconst 0, 1) := by decide +kernel
theorem dX1_copyFrom_44 : decode cX1_copyFrom 44 = .ok (.aload_n 1, 1) := by decide +kernel
theorem dX1_copyFrom_45 : decode cX1_copyFrom 45 = .ok (.getfield 21, 3) := by decide +kernel
theorem dX1_copyFrom_48 : decode cX1_copyFrom 48 = .ok (.invokestatic 33, 3) := by decide +kernel
theorem dX1_copyFrom_51 : decode cX1_copyFrom 51 = .ok (.aload_n 0, 1) := by decide +kernel
theorem dX1_copyFrom_52 : decode cX1_copyFrom 52 = .ok (.aload_n 1, 1) := by decide +kernel
theorem dX1_copyFrom_53 : decode cX1_copyFrom 53 = .ok (.getfield 21, 3) := by decide +kernel
theorem dX1_copyFrom_56 : decode cX1_copyFrom 56 = .ok (.putfield 21, 3) := by decide +kernel
theorem dX1_copyFrom_59 : decode cX1_copyFrom 59 = .ok (.return_, 1) := by decide +kernel
theorem dX0_makeAllShort_0 : decode cX0_makeAllShort 0 = .ok (.iconst 0, 1) := by decide +kernel
theorem dX0_makeAllShort_1 : decode cX0_makeAllShort 1 = .ok (.istore_n 1, 1) := by decide +kernel
theorem dX0_makeAllShort_2 : decode cX0_makeAllShort 2 = .ok (.iload_n 1, 1) := by decide +kernel
theorem dX0_makeAllShort_3 : decode cX0_makeAllShort 3 = .ok (.aload_n 0, 1) := by decide +kernel
theorem dX0_makeAllShort_4 : decode cX0_makeAllShort 4 = .ok (.getfield 12, 3) := by decide +kernel
theorem dX0_makeAllShort_7 : decode cX0_makeAllShort 7 = .ok (.getfield 34, 3) := by decide +kernel
theorem dX0_makeAllShort_10 : decode cX0_makeAllShort 10 = .ok (.if_icmp .ge 33, 3) := by decide +kernel
theorem dX0_makeAllShort_13 : decode cX0_makeAllShort 13 = .ok (.aload_n 0, 1) := by decide +kernel
theorem dX0_makeAllShort_14 : decode cX0_makeAllShort 14 = .ok (.getfield 22, 3) := by decide +kernel
theorem dX0_makeAllShort_17 : decode cX0_makeAllShort 17 = .ok (.iload_n 1, 1) := by decide +kernel
theorem dX0_makeAllShort_18 : decode cX0_makeAllShort 18 = .ok (.aload_n 0, 1) := by decide +kernel
theorem dX0_makeAllShort_19 : decode cX0_makeAllShort 19 = .ok (.getfield 12, 3) := by decide +kernel
theorem dX0_makeAllShort_22 : decode cX0_makeAllShort 22 = .ok (.getfield 52, 3) := by decide +kernel
theorem dX0_makeAllShort_25 : decode cX0_makeAllShort 25 = .ok (.iload_n 1, 1) := by decide +kernel
theorem dX0_makeAllShort_26 : decode cX0_makeAllShort 26 = .ok (.iaload, 1) := by decide +kernel
theorem dX0_makeAllShort_27 : decode cX0_makeAllShort 27 = .ok (.iconst 3, 1) := by decide +kernel
theorem dX0_makeAllShort_28 : decode cX0_makeAllShort 28 = .ok (.if_icmp .ne 7, 3) := by decide +kernel
theorem dX0_makeAllShort_31 : decode cX0_makeAllShort 31 = .ok (.iconst 1, 1) := by decide +kernel
theorem dX0_makeAllShort_32 : decode cX0_makeAllShort 32 = .ok (.goto 4, 3) := by decide +kernel
theorem dX0_makeAllShort_35 : decode cX0_makeAllShort 35 = .ok (.iconst 0, 1) := by decide +kernel
theorem dX0_makeAllShort_36 : decode cX0_makeAllShort 36 = .ok (.iastore, 1) := by decide +kernel
theorem dX0_makeAllShort_37 : decode cX0_makeAllShort 37 = .ok (.iinc 1 1, 3) := by decide +kernel
theorem dX0_makeAllShort_40 : decode cX0_makeAllShort 40 = .ok (.goto (-38), 3) := by decide +kernel
theorem dX0_makeAllShort_43 : decode cX0_makeAllShort 43 = .ok (.return_, 1) := by decide +kernel
theorem dX0_place_0 : decode cX0_place 0 = .ok (.aload_n 0, 1) := by decide +kernel
theorem dX0_place_1 : decode cX0_place 1 = .ok (.getfield 25, 3) := by decide +kernel
theorem dX0_place_4 : decode cX0_place 4 = .ok (.iconst (-1), 1) := by decide +kernel
theorem dX0_place_5 : decode cX0_place 5 = .ok (.invokestatic 28, 3) := by decide +kernel
theorem dX0_place_8 : decode cX0_place 8 = .ok (.iconst 0, 1) := by decide +kernel
theorem dX0_place_9 : decode cX0_place 9 = .ok (.istore_n 1, 1) := by decide +kernel
theorem dX0_place_10 : decode cX0_place 10 = .ok (.iconst 0, 1) := by decide +kernel
theorem dX0_place_11 : decode cX0_place 11 = .ok (.istore_n 2, 1) := by decide +kernel
theorem dX0_place_12 : decode cX0_place 12 = .ok (.iload_n 2, 1) := by decide +kernel
theorem dX0_place_13 : decode cX0_place 13 = .ok (.aload_n 0, 1) := by decide +kernel
theorem dX0_place_14 : decode cX0_place 14 = .ok (.getfield 12, 3) := by decide +kernel
theorem dX0_place_17 : decode cX0_place 17 = .ok (.getfield 34, 3) := by decide +kernel
theorem dX0_place_20 : decode cX0_place 20 = .ok (.if_icmp .ge 51, 3) := by decide +kernel
theorem dX0_place_23 : decode cX0_place 23 = .ok (.aload_n 0, 1) := by decide +kernel
theorem dX0_place_24 : decode cX0_place 24 = .ok (.getfield 18, 3) := by decide +kernel
theorem dX0_place_27 : decode cX0_place 27 = .ok (.iload_n 2, 1) := by decide +kernel
theorem dX0_place_28 : decode cX0_place 28 = .ok (.iload_n 1, 1) := by decide +kernel
theorem dX0_place_29 : decode cX0_place 29 = .ok (.iastore, 1) := by decide +kernel
theorem dX0_place_30 : decode cX0_place 30 = .ok (.aload_n 0, 1) := by decide +kernel
theorem dX0_place_31 : decode cX0_place 31 = .ok (.getfield 12, 3) := by decide +kernel
theorem dX0_place_34 : decode cX0_place 34 = .ok (.getfield 52, 3) := by decide +kernel
theorem dX0_place_37 : decode cX0_place 37 = .ok (.iload_n 2, 1) := by decide +kernel
theorem dX0_place_38 : decode cX0_place 38 = .ok (.iaload, 1) := by decide +kernel
theorem dX0_place_39 : decode cX0_place 39 = .ok (.ifCond .ne 18, 3) := by decide +kernel
theorem dX0_place_42 : decode cX0_place 42 = .ok (.aload_n 0, 1) := by decide +kernel
theorem dX0_place_43 : decode cX0_place 43 = .ok (.getfield 25, 3) := by decide +kernel
theorem dX0_place_46 : decode cX0_place 46 = .ok (.aload_n 0, 1) := by decide +kernel
theorem dX0_place_47 : decode cX0_place 47 = .ok (.getfield 12, 3) := by decide +kernel
theorem dX0_place_50 : decode cX0_place 50 = .ok (.getfield 55, 3) := by decide +kernel
theorem dX0_place_53 : decode cX0_place 53 = .ok (.iload_n 2, 1) := by decide +kernel
theorem dX0_place_54 : decode cX0_place 54 = .ok (.iaload, 1) := by decide +kernel
theorem dX0_place_55 : decode cX0_place 55 = .ok (.iload_n 1, 1) := by decide +kernel
theorem dX0_place_56 : decode cX0_place 56 = .ok (.iastore, 1) := by decide +kernel
theorem dX0_place_57 : decode cX0_place 57 = .ok (.iload_n 1, 1) := by decide +kernel
theorem dX0_place_58 : decode cX0_place 58 = .ok (.aload_n 0, 1) := by decide +kernel
theorem dX0_place_59 : decode cX0_place 59 = .ok (.iload_n 2, 1) := by decide +kernel
theorem dX0_place_60 : decode cX0_place 60 = .ok (.invokevirtual 58, 3) := by decide +kernel
theorem dX0_place_63 : decode cX0_place 63 = .ok (.iadd, 1) := by decide +kernel
theorem dX0_place_64 : decode cX0_place 64 = .ok (.istore_n 1, 1) := by decide +kernel
theorem dX0_place_65 : decode cX0_place 65 = .ok (.iinc 2 1, 3) := by decide +kernel
theorem dX0_place_68 : decode cX0_place 68 = .ok (.goto (-56), 3) := by decide +kernel
theorem dX0_place_71 : decode cX0_place 71 = .ok (.aload_n 0, 1) := by decide +kernel
theorem dX0_place_72 : decode cX0_place 72 = .ok (.getfield 18, 3) := by decide +kernel
theorem dX0_place_75 : decode cX0_place 75 = .ok (.aload_n 0, 1) := by decide +kernel
theorem dX0_place_76 : decode cX0_place 76 = .ok (.getfield 12, 3) := by decide +kernel
theorem dX0_place_79 : decode cX0_place 79 = .ok (.getfield 34, 3) := by decide +kernel
theorem dX0_place_82 : decode cX0_place 82 = .ok (.iload_n 1, 1) := by decide +kernel
theorem dX0_place_83 : decode cX0_place 83 = .ok (.iastore, 1) := by decide +kernel
theorem dX0_place_84 : decode cX0_place 84 = .ok (.return_, 1) := by decide +kernel
theorem dX0_lengthen_0 : decode cX0_lengthen 0 = .ok (.iconst 0, 1) := by decide +kernel
theorem dX0_lengthen_1 : decode cX0_lengthen 1 = .ok (.istore_n 1, 1) := by decide +kernel
theorem dX0_lengthen_2 : decode cX0_lengthen 2 = .ok (.iconst 0, 1) := by decide +kernel
theorem dX0_lengthen_3 : decode cX0_lengthen 3 = .ok (.istore_n 2, 1) := by decide +kernel
theorem dX0_lengthen_4 : decode cX0_lengthen 4 = .ok (.iload_n 2, 1) := by decide +kernel
theorem dX0_lengthen_5 : decode cX0_lengthen 5 = .ok (.aload_n 0, 1) := by decide +kernel
theorem dX0_lengthen_6 : decode cX0_lengthen 6 = .ok (.getfield 12, 3) := by decide +kernel
theorem dX0_lengthen_9 : decode cX0_lengthen 9 = .ok (.getfield 34, 3) := by decide +kernel
theorem dX0_lengthen_12 : decode cX0_lengthen 12 = .ok (.if_icmp .ge 43, 3) := by decide +kernel
theorem dX0_lengthen_15 : decode cX0_lengthen 15 = .ok (.aload_n 0, 1) := by decide +kernel
theorem dX0_lengthen_16 : decode cX0_lengthen 16 = .ok (.getfield 22, 3) := by decide +kernel
theorem dX0_lengthen_19 : decode cX0_lengthen 19 = .ok (.iload_n 2, 1) := by decide +kernel
theorem dX0_lengthen_20 : decode cX0_lengthen 20 = .ok (.iaload, 1) := by decide +kernel
theorem dX0_lengthen_21 : decode cX0_lengthen 21 = .ok (.iconst 1, 1) := by decide +kernel
theorem dX0_lengthen_22 : decode cX0_lengthen 22 = .ok (.if_icmp .ne 27, 3) := by decide +kernel
theorem dX0_lengthen_25 : decode cX0_lengthen 25 = .ok (.aload_n 0, 1) := by decide +kernel
theorem dX0_lengthen_26 : decode cX0_lengthen 26 = .ok (.iload_n 2, 1) := by decide +kernel
theorem dX0_lengthen_27 : decode cX0_lengthen 27 = .ok (.invokevirtual 62, 3) := by decide +kernel
theorem dX0_lengthen_30 : decode cX0_lengthen 30 = .ok (.bipush (-128), 2) := by decide +kernel
theorem dX0_lengthen_32 : decode cX0_lengthen 32 = .ok (.bipush 127, 2) := by decide +kernel
theorem dX0_lengthen_34 : decode cX0_lengthen 34 = .ok (.invokestatic 65, 3) := by decide +kernel
theorem dX0_lengthen_37 : decode cX0_lengthen 37 = .ok (.ifCond .ne 12, 3) := by decide +kernel
theorem dX0_lengthen_40 : decode cX0_lengthen 40 = .ok (.aload_n 0, 1) := by decide +kernel
theorem dX0_lengthen_41 : decode cX0_lengthen 41 = .ok (.getfield 22, 3) := by decide +kernel
theorem dX0_lengthen_44 : decode cX0_lengthen 44 = .ok (.iload_n 2, 1) := by decide +kernel
theorem dX0_lengthen_45 : decode cX0_lengthen 45 = .ok (.iconst 2, 1) := by decide +kernel
theorem dX0_lengthen_46 : decode cX0_lengthen 46 = .ok (.iastore, 1) := by decide +kernel
theorem dX0_lengthen_47 : decode cX0_lengthen 47 = .ok (.iconst 1, 1) := by decide +kernel
theorem dX0_lengthen_48 : decode cX0_lengthen 48 = .ok (.istore_n 1, 1) := by decide +kernel
theorem dX0_lengthen_49 : decode cX0_lengthen 49 = .ok (.iinc 2 1, 3) := by decide +kernel
theorem dX0_lengthen_52 : decode cX0_lengthen 52 = .ok (.goto (-48), 3) := by decide +kernel
theorem dX0_lengthen_55 : decode cX0_lengthen 55 = .ok (.iload_n 1, 1) := by decide +kernel
theorem dX0_lengthen_56 : decode cX0_lengthen 56 = .ok (.ireturn, 1) := by decide +kernel
theorem dL_follow_0 : decode cL_follow 0 = .ok (.aload_n 3, 1) := by decide +kernel
theorem dL_follow_1 : decode cL_follow 1 = .ok (.iconst 0, 1) := by decide +kernel
theorem dL_follow_2 : decode cL_follow 2 = .ok (.aload_n 0, 1) := by decide +kernel
theorem dL_follow_3 : decode cL_follow 3 = .ok (.iload_n 1, 1) := by decide +kernel
theorem dL_follow_4 : decode cL_follow 4 = .ok (.iload_n 2, 1) := by decide +kernel
theorem dL_follow_5 : decode cL_follow 5 = .ok (.invokevirtual 17, 3) := by decide +kernel
theorem dL_follow_8 : decode cL_follow 8 = .ok (.i2l, 1) := by decide +kernel
theorem dL_follow_9 : decode cL_follow 9 = .ok (.lastore, 1) := by decide +kernel
theorem dL_follow_10 : decode cL_follow 10 = .ok (.goto 7, 3) := by decide +kernel
theorem dL_follow_13 : decode cL_follow 13 = .ok (.astore 4, 2) := by decide +kernel
theorem dL_follow_15 : decode cL_follow 15 = .ok (.iconst 1, 1) := by decide +kernel
theorem dL_follow_16 : decode cL_follow 16 = .ok (.ireturn, 1) := by decide +kernel
theorem dL_follow_17 : decode cL_follow 17 = .ok (.iconst 0, 1) := by decide +kernel
theorem dL_follow_18 : decode cL_follow 18 = .ok (.ireturn, 1) := by decide +kernel
theorem dX2_follow_0 : decode cX2_follow 0 = .ok (.aload_n 0, 1) := by decide +kernel
theorem dX2_follow_1 : decode cX2_follow 1 = .ok (.getfield 19, 3) := by decide +kernel
theorem dX2_follow_4 : decode cX2_follow 4 = .ok (.iload_n 1, 1) := by decide +kernel
theorem dX2_follow_5 : decode cX2_follow 5 = .ok (.invokevirtual 92, 3) := by decide +kernel
theorem dX2_follow_8 : decode cX2_follow 8 = .ok (.istore_n 3, 1) := by decide +kernel
theorem dX2_follow_9 : decode cX2_follow 9 = .ok (.iload_n 3, 1) := by decide +kernel
theorem dX2_follow_10 : decode cX2_follow 10 = .ok (.ifCond .ne 13, 3) := by decide +kernel
theorem dX2_follow_13 : decode cX2_follow 13 = .ok (.new 95, 3) := by decide +kernel
theorem dX2_follow_16 : decode cX2_follow 16 = .ok (.dup, 1) := by decide +kernel
theorem dX2_follow_17 : decode cX2_follow 17 = .ok (.ldc 97, 2) := by decide +kernel
theorem dX2_follow_19 : decode cX2_follow 19 = .ok (.invokespecial 99, 3) := by decide +kernel
theorem dX2_follow_22 : decode cX2_follow 22 = .ok (.athrow, 1) := by decide +kernel
theorem dX2_follow_23 : decode cX2_follow 23 = .ok (.iload_n 2, 1) := by decide +kernel
theorem dX2_follow_24 : decode cX2_follow 24 = .ok (.ifCond .eq 15, 3) := by decide +kernel
theorem dX2_follow_27 : decode cX2_follow 27 = .ok (.aload_n 0, 1) := by decide +kernel
theorem dX2_follow_28 : decode cX2_follow 28 = .ok (.getfield 19, 3) := by decide +kernel
theorem dX2_follow_31 : decode cX2_follow 31 = .ok (.iload_n 1, 1) := by decide +kernel
theorem dX2_follow_32 : decode cX2_follow 32 = .ok (.iload_n 3, 1) := by decide +kernel
theorem dX2_follow_33 : decode cX2_follow 33 = .ok (.invokevirtual 100, 3) := by decide +kernel
theorem dX2_follow_36 : decode cX2_follow 36 = .ok (.goto 6, 3) := by decide +kernel
theorem dX2_follow_39 : decode cX2_follow 39 = .ok (.iload_n 1, 1) := by decide +kernel
theorem dX2_follow_40 : decode cX2_follow 40 = .ok (.iload_n 3, 1) := by decide +kernel
theorem dX2_follow_41 : decode cX2_follow 41 = .ok (.iadd, 1) := by decide +kernel
theorem dX2_follow_42 : decode cX2_follow 42 = .ok (.ireturn, 1) := by decide +kernel
theorem dX3_init_0 : decode cX3_init 0 = .ok (.aload_n 0, 1) := by decide +kernel
theorem dX3_init_1 : decode cX3_init 1 = .ok (.invokespecial 1, 3) := by decide +kernel
theorem dX3_init_4 : decode cX3_init 4 = .ok (.aload_n 0, 1) := by decide +kernel
theorem dX3_init_5 : decode cX3_init 5 = .ok (.bipush 50, 2) := by decide +kernel
theorem dX3_init_7 : decode cX3_init 7 = .ok (.newarray .int, 2) := by decide +kernel
theorem dX3_init_9 : decode cX3_init 9 = .ok (.putfield 7, 3) := by decide +kernel
theorem dX3_init_12 : decode cX3_init 12 = .ok (.aload_n 0, 1) := by decide +kernel
theorem dX3_init_13 : decode cX3_init 13 = .ok (.bipush 50, 2) := by decide +kernel
theorem dX3_init_15 : decode cX3_init 15 = .ok (.newarray .int, 2) := by decide +kernel
theorem dX3_init_17 : decode cX3_init 17 = .ok (.putfield 13, 3) := by decide +kernel
theorem dX3_init_20 : decode cX3_init 20 = .ok (.aload_n 0, 1) := by decide +kernel
theorem dX3_init_21 : decode cX3_init 21 = .ok (.bipush 50, 2) := by decide +kernel
theorem dX3_init_23 : decode cX3_init 23 = .ok (.newarray .int, 2) := by decide +kernel
theorem dX3_init_25 : decode cX3_init 25 = .ok (.putfield 16, 3) := by decide +kernel
theorem dX3_init_28 : decode cX3_init 28 = .ok (.aload_n 0, 1) := by decide +kernel
theorem dX3_init_29 : decode cX3_init 29 = .ok (.bipush 50, 2) := by decide +kernel
theorem dX3_init_31 : decode cX3_init 31 = .ok (.newarray .int, 2) := by decide +kernel
theorem dX3_init_33 : decode cX3_init 33 = .ok (.putfield 19, 3) := by decide +kernel
theorem dX3_init_36 : decode cX3_init 36 = .ok (.aload_n 0, 1) := by decide +kernel
theorem dX3_init_37 : decode cX3_init 37 = .ok (.bipush 50, 2) := by decide +kernel
theorem dX3_init_39 : decode cX3_init 39 = .ok (.newarray .int, 2) := by decide +kernel
theorem dX3_init_41 : decode cX3_init 41 = .ok (.putfield 22, 3) := by decide +kernel
theorem dX3_init_44 : decode cX3_init 44 = .ok (.aload_n 0, 1) := by decide +kernel
theorem dX3_init_45 : decode cX3_init 45 = .ok (.bipush 50, 2) := by decide +kernel
theorem dX3_init_47 : decode cX3_init 47 = .ok (.newarray .int, 2) := by decide +kernel
theorem dX3_init_49 : decode cX3_init 49 = .ok (.putfield 25, 3) := by decide +kernel
theorem dX3_init_52 : decode cX3_init 52 = .ok (.aload_n 0, 1) := by decide +kernel
theorem dX3_init_53 : decode cX3_init 53 = .ok (.bipush 50, 2) := by decide +kernel
theorem dX3_init_55 : decode cX3_init 55 = .ok (.newarray .int, 2) := by decide +kernel
theorem dX3_init_57 : decode cX3_init 57 = .ok (.putfield 28, 3) := by decide +kernel
theorem dX3_init_60 : decode cX3_init 60 = .ok (.return_, 1) := by decide +kernel
theorem dX3_thrown_0 : decode cX3_thrown 0 = .ok (.aload_n 0, 1) := by decide +kernel
theorem dX3_thrown_1 : decode cX3_thrown 1 = .ok (.getfield 31, 3) := by decide +kernel
theorem dX3_thrown_4 : decode cX3_thrown 4 = .ok (.ireturn, 1) := by decide +kernel
theorem dX3_insert_0 : decode cX3_insert 0 = .ok (.aload_n 0, 1) := by decide +kernel
theorem dX3_insert_1 : decode cX3_insert 1 = .ok (.iconst 0, 1) := by decide +kernel
theorem dX3_insert_2 : decode cX3_insert 2 = .ok (.putfield 31, 3) := by decide +kernel
theorem dX3_insert_5 : decode cX3_insert 5 = .ok (.aload_n 0, 1) := by decide +kernel
theorem dX3_insert_6 : decode cX3_insert 6 = .ok (.getfield 39, 3) := by decide +kernel
theorem dX3_insert_9 : decode cX3_insert 9 = .ok (.bipush 50, 2) := by decide +kernel
theorem dX3_insert_11 : decode cX3_insert 11 = .ok (.if_icmp .eq 25, 3) := by decide +kernel
theorem dX3_insert_14 : decode cX3_insert 14 = .ok (.iload_n 1, 1) := by decide +kernel
theorem dX3_insert_15 : decode cX3_insert 15 = .ok (.ifCond .lt 21, 3) := by decide +kernel
theorem dX3_insert_18 : decode cX3_insert 18 = .ok (.iload_n 1, 1) := by decide +kernel
theorem dX3_insert_19 : decode cX3_insert 19 = .ok (.aload_n 0, 1) := by decide +kernel
theorem dX3_insert_20 : decode cX3_insert 20 = .ok (.getfield 39, 3) := by decide +kernel
theorem dX3_insert_23 : decode cX3_insert 23 = .ok (.if_icmp .gt 13, 3) := by decide +kernel
theorem dX3_insert_26 : decode cX3_insert 26 = .ok (.iload_n 2, 1) := by decide +kernel
theorem dX3_insert_27 : decode cX3_insert 27 = .ok (.iload_n 3, 1) := by decide +kernel
theorem dX3_insert_28 : decode cX3_insert 28 = .ok (.iload 4, 2) := by decide +kernel
theorem dX3_insert_30 : decode cX3_insert 30 = .ok (.invokestatic 42, 3) := by decide +kernel
theorem dX3_insert_33 : decode cX3_insert 33 = .ok (.ifCond .ne 5, 3) := by decide +kernel
theorem dX3_insert_36 : decode cX3_insert 36 = .ok (.iconst 0, 1) := by decide +kernel
theorem dX3_insert_37 : decode cX3_insert 37 = .ok (.ireturn, 1) := by decide +kernel
theorem dX3_insert_38 : decode cX3_insert 38 = .ok (.aload_n 0, 1) := by decide +kernel
theorem dX3_insert_39 : decode cX3_insert 39 = .ok (.getfield 39, 3) := by decide +kernel
theorem dX3_insert_42 : decode cX3_insert 42 = .ok (.istore 5, 2) := by decide +kernel
theorem dX3_insert_44 : decode cX3_insert 44 = .ok (.iload 5, 2) := by decide +kernel
theorem dX3_insert_46 : decode cX3_insert 46 = .ok (.iload_n 1, 1) := by decide +kernel
theorem dX3_insert_47 : decode cX3_insert 47 = .ok (.if_icmp .le 57, 3) := by decide +kernel
theorem dX3_insert_50 : decode cX3_insert 50 = .ok (.aload_n 0, 1) := by decide +kernel
theorem dX3_insert_51 : decode cX3_insert 51 = .ok (.getfield 7, 3) := by decide +kernel
theorem dX3_insert_54 : decode cX3_insert 54 = .ok (.iload 5, 2) := by decide +kernel
theorem dX3_insert_56 : decode cX3_insert 56 = .ok (.aload_n 0, 1) := by decide +kernel
theorem dX3_insert_57 : decode cX3_insert 57 = .ok (.getfield 7, 3) := by decide +kernel
theorem dX3_insert_60 : decode cX3_insert 60 = .ok (.iload 5, 2) := by decide +kernel
theorem dX3_insert_62 : decode cX3_insert 62 = .ok (.iconst 1, 1) := by decide +kernel
theorem dX3_insert_63 : decode cX3_insert 63 = .ok (.isub, 1) := by decide +kernel
theorem dX3_insert_64 : decode cX3_insert 64 = .ok (.iaload, 1) := by decide +kernel
theorem dX3_insert_65 : decode cX3_insert 65 = .ok (.iastore, 1) := by decide +kernel
theorem dX3_insert_66 : decode cX3_insert 66 = .ok (.aload_n 0, 1) := by decide +kernel
theorem dX3_insert_67 : decode cX3_insert 67 = .ok (.getfield 13, 3) := by decide +kernel
theorem dX3_insert_70 : decode cX3_insert 70 = .ok (.iload 5, 2) := by decide +kernel
theorem dX3_insert_72 : decode cX3_insert 72 = .ok (.aload_n 0, 1) := by decide +kernel
theorem dX3_insert_73 : decode cX3_insert 73 = .ok (.getfield 13, 3) := by decide +kernel
theorem dX3_insert_76 : decode cX3_insert 76 = .ok (.iload 5, 2) := by decide +kernel
theorem dX3_insert_78 : decode cX3_insert 78 = .ok (.iconst 1, 1) := by decide +kernel
theorem dX3_insert_79 : decode cX3_insert 79 = .ok (.isub, 1) := by decide +kernel
theorem dX3_insert_80 : decode cX3_insert 80 = .ok (.iaload, 1) := by decide +kernel
theorem dX3_insert_81 : decode cX3_insert 81 = .ok (.iastore, 1) := by decide +kernel
theorem dX3_insert_82 : decode cX3_insert 82 = .ok (.aload_n 0, 1) := by decide +kernel
theorem dX3_insert_83 : decode cX3_insert 83 = .ok (.getfield 16, 3) := by decide +kernel
theorem dX3_insert_86 : decode cX3_insert 86 = .ok (.iload 5, 2) := by decide +kernel
theorem dX3_insert_88 : decode cX3_insert 88 = .ok (.aload_n 0, 1) := by decide +kernel
theorem dX3_insert_89 : decode cX3_insert 89 = .ok (.getfield 16, 3) := by decide +kernel
theorem dX3_insert_92 : decode cX3_insert 92 = .ok (.iload 5, 2) := by decide +kernel
theorem dX3_insert_94 : decode cX3_insert 94 = .ok (.iconst 1, 1) := by decide +kernel
theorem dX3_insert_95 : decode cX3_insert 95 = .ok (.isub, 1) := by decide +kernel
theorem dX3_insert_96 : decode cX3_insert 96 = .ok (.iaload, 1) := by decide +kernel
theorem dX3_insert_97 : decode cX3_insert 97 = .ok (.iastore, 1) := by decide +kernel
theorem dX3_insert_98 : decode cX3_insert 98 = .ok (.iinc 5 (-1), 3) := by decide +kernel
theorem dX3_insert_101 : decode cX3_insert 101 = .ok (.goto (-57), 3) := by decide +kernel
theorem dX3_insert_104 : decode cX3_insert 104 = .ok (.aload_n 0, 1) := by decide +kernel
theorem dX3_insert_105 : decode cX3_insert 105 = .ok (.getfield 7, 3) := by decide +kernel
theorem dX3_insert_108 : decode cX3_insert 108 = .ok (.iload_n 1, 1) := by decide +kernel
theorem dX3_insert_109 : decode cX3_insert 109 = .ok (.iload_n 2, 1) := by decide +kernel
theorem dX3_insert_110 : decode cX3_insert 110 = .ok (.iastore, 1) := by decide +kernel
theorem dX3_insert_111 : decode cX3_insert 111 = .ok (.aload_n 0, 1) := by decide +kernel
theorem dX3_insert_112 : decode cX3_insert 112 = .ok (.getfield 13, 3) := by decide +kernel
theorem dX3_insert_115 : decode cX3_insert 115 = .ok (.iload_n 1, 1) := by decide +kernel
theorem dX3_insert_116 : decode cX3_insert 116 = .ok (.iload_n 3, 1) := by decide +kernel
theorem dX3_insert_117 : decode cX3_insert 117 = .ok (.iastore, 1) := by decide +kernel
theorem dX3_insert_118 : decode cX3_insert 118 = .ok (.aload_n 0, 1) := by decide +kernel
theorem dX3_insert_119 : decode cX3_insert 119 = .ok (.getfield 16, 3) := by decide +kernel
theorem dX3_insert_122 : decode cX3_insert 122 = .ok (.iload_n 1, 1) := by decide +kernel
theorem dX3_insert_123 : decode cX3_insert 123 = .ok (.iload 4, 2) := by decide +kernel
theorem dX3_insert_125 : decode cX3_insert 125 = .ok (.iastore, 1) := by decide +kernel
theorem dX3_insert_126 : decode cX3_insert 126 = .ok (.aload_n 0, 1) := by decide +kernel
theorem dX3_insert_127 : decode cX3_insert 127 = .ok (.dup, 1) := by decide +kernel
theorem dX3_insert_128 : decode cX3_insert 128 = .ok (.getfield 39, 3) := by decide +kernel
theorem dX3_insert_131 : decode cX3_insert 131 = .ok (.iconst 1, 1) := by decide +kernel
theorem dX3_insert_132 : decode cX3_insert 132 = .ok (.iadd, 1) := by decide +kernel
theorem dX3_insert_133 : decode cX3_insert 133 = .ok (.putfield 39, 3) := by decide +kernel
theorem dX3_insert_136 : decode cX3_insert 136 = .ok (.iconst 1, 1) := by decide +kernel
theorem dX3_insert_137 : decode cX3_insert 137 = .ok (.ireturn, 1) := by decide +kernel
theorem dX3_good_0 : decode cX3_good 0 = .ok (.iload_n 0, 1) := by decide +kernel
theorem dX3_good_1 : decode cX3_good 1 = .ok (.tableswitch 134 0 3 #[31, 51, 79, 108], 31) := by decide +kernel
theorem dX3_good_32 : decode cX3_good 32 = .ok (.iload_n 1, 1) := by decide +kernel
theorem dX3_good_33 : decode cX3_good 33 = .ok (.iconst 0, 1) := by decide +kernel
theorem dX3_good_34 : decode cX3_good 34 = .ok (.bipush 15, 2) := by decide +kernel
theorem dX3_good_36 : decode cX3_good 36 = .ok (.invokestatic 35, 3) := by decide +kernel
theorem dX3_good_39 : decode cX3_good 39 = .ok (.ifCond .eq 11, 3) := by decide +kernel
theorem dX3_good_42 : decode cX3_good 42 = .ok (.iload_n 2, 1) := by decide +kernel
theorem dX3_good_43 : decode cX3_good 43 = .ok (.ifCond .ne 7, 3) := by decide +kernel
theorem dX3_good_46 : decode cX3_good 46 = .ok (.iconst 1, 1) := by decide +kernel
theorem dX3_good_47 : decode cX3_good 47 = .ok (.goto 4, 3) := by decide +kernel
theorem dX3_good_50 : decode cX3_good 50 = .ok (.iconst 0, 1) := by decide +kernel
theorem dX3_good_51 : decode cX3_good 51 = .ok (.ireturn, 1) := by decide +kernel
theorem dX3_good_52 : decode cX3_good 52 = .ok (.iload_n 1, 1) := by decide +kernel
theorem dX3_good_53 : decode cX3_good 53 = .ok (.iconst 1, 1) := by decide +kernel
theorem dX3_good_54 : decode cX3_good 54 = .ok (.sipush 200, 3) := by decide +kernel
theorem dX3_good_57 : decode cX3_good 57 = .ok (.invokestatic 35, 3) := by decide +kernel
theorem dX3_good_60 : decode cX3_good 60 = .ok (.ifCond .eq 18, 3) := by decide +kernel
theorem dX3_good_63 : decode cX3_good 63 = .ok (.iload_n 2, 1) := by decide +kernel
theorem dX3_good_64 : decode cX3_good 64 = .ok (.iconst 0, 1) := by decide +kernel
theorem dX3_good_65 : decode cX3_good 65 = .ok (.sipush 255, 3) := by decide +kernel
theorem dX3_good_68 : decode cX3_good 68 = .ok (.invokestatic 35, 3) := by decide +kernel
theorem dX3_good_71 : decode cX3_good 71 = .ok (.ifCond .eq 7, 3) := by decide +kernel
theorem dX3_good_74 : decode cX3_good 74 = .ok (.iconst 1, 1) := by decide +kernel
theorem dX3_good_75 : decode cX3_good 75 = .ok (.goto 4, 3) := by decide +kernel
theorem dX3_good_78 : decode cX3_good 78 = .ok (.iconst 0, 1) := by decide +kernel
theorem dX3_good_79 : decode cX3_good 79 = .ok (.ireturn, 1) := by decide +kernel
theorem dX3_good_80 : decode cX3_good 80 = .ok (.iload_n 1, 1) := by decide +kernel
theorem dX3_good_81 : decode cX3_good 81 = .ok (.iconst 0, 1) := by decide +kernel
theorem dX3_good_82 : decode cX3_good 82 = .ok (.bipush 15, 2) := by decide +kernel
theorem dX3_good_84 : decode cX3_good 84 = .ok (.invokestatic 35, 3) := by decide +kernel
theorem dX3_good_87 : decode cX3_good 87 = .ok (.ifCond .eq 20, 3) := by decide +kernel
theorem dX3_good_90 : decode cX3_good 90 = .ok (.iload_n 2, 1) := by decide +kernel
theorem dX3_good_91 : decode cX3_good 91 = .ok (.sipush (-1000), 3) := by decide +kernel
theorem dX3_good_94 : decode cX3_good 94 = .ok (.sipush 1000, 3) := by decide +kernel
theorem dX3_good_97 : decode cX3_good 97 = .ok (.invokestatic 35, 3) := by decide +kernel
theorem dX3_good_100 : decode cX3_good 100 = .ok (.ifCond .eq 7, 3) := by decide +kernel
theorem dX3_good_103 : decode cX3_good 103 = .ok (.iconst 1, 1) := by decide +kernel
theorem dX3_good_104 : decode cX3_good 104 = .ok (.goto 4, 3) := by decide +kernel
theorem dX3_good_107 : decode cX3_good 107 = .ok (.iconst 0, 1) := by decide +kernel
theorem dX3_good_108 : decode cX3_good 108 = .ok (.ireturn, 1) := by decide +kernel
