theorem dX2_init_0 : decode cX2_init 0 = .ok (.aload_n 0, 1) := by decide +kernel
theorem dX2_init_1 : decode cX2_init 1 = .ok (.invokespecial 1, 3) := by decide +kernel
theorem dX2_init_4 : decode cX2_init 4 = .ok (.aload_n 0, 1) := by decide +kernel
theorem dX2_init_5 : decode cX2_init 5 = .ok (.new 7, 3) := by decide +kernel
theorem dX2_init_8 : decode cX2_init 8 = .ok (.dup, 1) := by decide +kernel
theorem dX2_init_9 : decode cX2_init 9 = .ok (.invokespecial 9, 3) := by decide +kernel
theorem dX2_init_12 : decode cX2_init 12 = .ok (.putfield 10, 3) := by decide +kernel
theorem dX2_init_15 : decode cX2_init 15 = .ok (.aload_n 0, 1) := by decide +kernel
theorem dX2_init_16 : decode cX2_init 16 = .ok (.new 16, 3) := by decide +kernel
theorem dX2_init_19 : decode cX2_init 19 = .ok (.dup, 1) := by decide +kernel
theorem dX2_init_20 : decode cX2_init 20 = .ok (.invokespecial 18, 3) := by decide +kernel
theorem dX2_init_23 : decode cX2_init 23 = .ok (.putfield 19, 3) := by decide +kernel
theorem dX2_init_26 : decode cX2_init 26 = .ok (.return_, 1) := by decide +kernel
theorem dX1_init_0 : decode cX1_init 0 = .ok (.aload_n 0, 1) := by decide +kernel
theorem dX1_init_1 : decode cX1_init 1 = .ok (.invokespecial 3, 3) := by decide +kernel
theorem dX1_init_4 : decode cX1_init 4 = .ok (.aload_n 0, 1) := by decide +kernel
theorem dX1_init_5 : decode cX1_init 5 = .ok (.bipush 50, 2) := by decide +kernel
theorem dX1_init_7 : decode cX1_init 7 = .ok (.newarray .int, 2) := by decide +kernel
theorem dX1_init_9 : decode cX1_init 9 = .ok (.putfield 9, 3) := by decide +kernel
theorem dX1_init_12 : decode cX1_init 12 = .ok (.aload_n 0, 1) := by decide +kernel
theorem dX1_init_13 : decode cX1_init 13 = .ok (.bipush 50, 2) := by decide +kernel
theorem dX1_init_15 : decode cX1_init 15 = .ok (.newarray .int, 2) := by decide +kernel
theorem dX1_init_17 : decode cX1_init 17 = .ok (.putfield 15, 3) := by decide +kernel
theorem dX1_init_20 : decode cX1_init 20 = .ok (.aload_n 0, 1) := by decide +kernel
theorem dX1_init_21 : decode cX1_init 21 = .ok (.bipush 50, 2) := by decide +kernel
theorem dX1_init_23 : decode cX1_init 23 = .ok (.newarray .int, 2) := by decide +kernel
theorem dX1_init_25 : decode cX1_init 25 = .ok (.putfield 18, 3) := by decide +kernel
theorem dX1_init_28 : decode cX1_init 28 = .ok (.aload_n 0, 1) := by decide +kernel
theorem dX1_init_29 : decode cX1_init 29 = .ok (.iconst 0, 1) := by decide +kernel
theorem dX1_init_30 : decode cX1_init 30 = .ok (.putfield 21, 3) := by decide +kernel
theorem dX1_init_33 : decode cX1_init 33 = .ok (.return_, 1) := by decide +kernel
theorem dX0_init_0 : decode cX0_init 0 = .ok (.aload_n 0, 1) := by decide +kernel
theorem dX0_init_1 : decode cX0_init 1 = .ok (.invokespecial 3, 3) := by decide +kernel
theorem dX0_init_4 : decode cX0_init 4 = .ok (.aload_n 0, 1) := by decide +kernel
theorem dX0_init_5 : decode cX0_init 5 = .ok (.new 9, 3) := by decide +kernel
theorem dX0_init_8 : decode cX0_init 8 = .ok (.dup, 1) := by decide +kernel
theorem dX0_init_9 : decode cX0_init 9 = .ok (.invokespecial 11, 3) := by decide +kernel
theorem dX0_init_12 : decode cX0_init 12 = .ok (.putfield 12, 3) := by decide +kernel
theorem dX0_init_15 : decode cX0_init 15 = .ok (.aload_n 0, 1) := by decide +kernel
theorem dX0_init_16 : decode cX0_init 16 = .ok (.bipush 51, 2) := by decide +kernel
theorem dX0_init_18 : decode cX0_init 18 = .ok (.newarray .int, 2) := by decide +kernel
theorem dX0_init_20 : decode cX0_init 20 = .ok (.putfield 18, 3) := by decide +kernel
theorem dX0_init_23 : decode cX0_init 23 = .ok (.aload_n 0, 1) := by decide +kernel
theorem dX0_init_24 : decode cX0_init 24 = .ok (.bipush 50, 2) := by decide +kernel
theorem dX0_init_26 : decode cX0_init 26 = .ok (.newarray .int, 2) := by decide +kernel
theorem dX0_init_28 : decode cX0_init 28 = .ok (.putfield 22, 3) := by decide +kernel
theorem dX0_init_31 : decode cX0_init 31 = .ok (.aload_n 0, 1) := by decide +kernel
theorem dX0_init_32 : decode cX0_init 32 = .ok (.bipush 16, 2) := by decide +kernel
theorem dX0_init_34 : decode cX0_init 34 = .ok (.newarray .int, 2) := by decide +kernel
theorem dX0_init_36 : decode cX0_init 36 = .ok (.putfield 25, 3) := by decide +kernel
theorem dX0_init_39 : decode cX0_init 39 = .ok (.aload_n 0, 1) := by decide +kernel
theorem dX0_init_40 : decode cX0_init 40 = .ok (.getfield 25, 3) := by decide +kernel
theorem dX0_init_43 : decode cX0_init 43 = .ok (.iconst (-1), 1) := by decide +kernel
theorem dX0_init_44 : decode cX0_init 44 = .ok (.invokestatic 28, 3) := by decide +kernel
theorem dX0_init_47 : decode cX0_init 47 = .ok (.return_, 1) := by decide +kernel
theorem dJ7_fill_0 : decode cJ7_fill 0 = .ok (.iconst 0, 1) := by decide +kernel
theorem dJ7_fill_1 : decode cJ7_fill 1 = .ok (.istore_n 2, 1) := by decide +kernel
theorem dJ7_fill_2 : decode cJ7_fill 2 = .ok (.aload_n 0, 1) := by decide +kernel
theorem dJ7_fill_3 : decode cJ7_fill 3 = .ok (.arraylength, 1) := by decide +kernel
theorem dJ7_fill_4 : decode cJ7_fill 4 = .ok (.istore_n 3, 1) := by decide +kernel
theorem dJ7_fill_5 : decode cJ7_fill 5 = .ok (.iload_n 2, 1) := by decide +kernel
theorem dJ7_fill_6 : decode cJ7_fill 6 = .ok (.iload_n 3, 1) := by decide +kernel
theorem dJ7_fill_7 : decode cJ7_fill 7 = .ok (.if_icmp .ge 13, 3) := by decide +kernel
theorem dJ7_fill_10 : decode cJ7_fill 10 = .ok (.aload_n 0, 1) := by decide +kernel
theorem dJ7_fill_11 : decode cJ7_fill 11 = .ok (.iload_n 2, 1) := by decide +kernel
theorem dJ7_fill_12 : decode cJ7_fill 12 = .ok (.iload_n 1, 1) := by decide +kernel
theorem dJ7_fill_13 : decode cJ7_fill 13 = .ok (.iastore, 1) := by decide +kernel
theorem dJ7_fill_14 : decode cJ7_fill 14 = .ok (.iinc 2 1, 3) := by decide +kernel
theorem dJ7_fill_17 : decode cJ7_fill 17 = .ok (.goto (-12), 3) := by decide +kernel
theorem dJ7_fill_20 : decode cJ7_fill 20 = .ok (.return_, 1) := by decide +kernel
theorem dX2_insert_0 : decode cX2_insert 0 = .ok (.iload_n 2, 1) := by decide +kernel
theorem dX2_insert_1 : decode cX2_insert 1 = .ok (.iload_n 3, 1) := by decide +kernel
theorem dX2_insert_2 : decode cX2_insert 2 = .ok (.iload 4, 2) := by decide +kernel
theorem dX2_insert_4 : decode cX2_insert 4 = .ok (.invokestatic 23, 3) := by decide +kernel
theorem dX2_insert_7 : decode cX2_insert 7 = .ok (.ifCond .eq 22, 3) := by decide +kernel
theorem dX2_insert_10 : decode cX2_insert 10 = .ok (.aload_n 0, 1) := by decide +kernel
theorem dX2_insert_11 : decode cX2_insert 11 = .ok (.getfield 10, 3) := by decide +kernel
theorem dX2_insert_14 : decode cX2_insert 14 = .ok (.iload_n 1, 1) := by decide +kernel
theorem dX2_insert_15 : decode cX2_insert 15 = .ok (.iload_n 2, 1) := by decide +kernel
theorem dX2_insert_16 : decode cX2_insert 16 = .ok (.iload_n 3, 1) := by decide +kernel
theorem dX2_insert_17 : decode cX2_insert 17 = .ok (.iload 4, 2) := by decide +kernel
theorem dX2_insert_19 : decode cX2_insert 19 = .ok (.invokevirtual 27, 3) := by decide +kernel
theorem dX2_insert_22 : decode cX2_insert 22 = .ok (.ifCond .eq 7, 3) := by decide +kernel
theorem dX2_insert_25 : decode cX2_insert 25 = .ok (.iconst 1, 1) := by decide +kernel
theorem dX2_insert_26 : decode cX2_insert 26 = .ok (.goto 4, 3) := by decide +kernel
theorem dX2_insert_29 : decode cX2_insert 29 = .ok (.iconst 0, 1) := by decide +kernel
theorem dX2_insert_30 : decode cX2_insert 30 = .ok (.ireturn, 1) := by decide +kernel
theorem dX2_isLine_0 : decode cX2_isLine 0 = .ok (.iload_n 0, 1) := by decide +kernel
theorem dX2_isLine_1 : decode cX2_isLine 1 = .ok (.ifCond .ne 20, 3) := by decide +kernel
theorem dX2_isLine_4 : decode cX2_isLine 4 = .ok (.iload_n 1, 1) := by decide +kernel
theorem dX2_isLine_5 : decode cX2_isLine 5 = .ok (.invokestatic 86, 3) := by decide +kernel
theorem dX2_isLine_8 : decode cX2_isLine 8 = .ok (.ifCond .eq 11, 3) := by decide +kernel
theorem dX2_isLine_11 : decode cX2_isLine 11 = .ok (.iload_n 2, 1) := by decide +kernel
theorem dX2_isLine_12 : decode cX2_isLine 12 = .ok (.ifCond .ne 7, 3) := by decide +kernel
theorem dX2_isLine_15 : decode cX2_isLine 15 = .ok (.iconst 1, 1) := by decide +kernel
theorem dX2_isLine_16 : decode cX2_isLine 16 = .ok (.goto 4, 3) := by decide +kernel
theorem dX2_isLine_19 : decode cX2_isLine 19 = .ok (.iconst 0, 1) := by decide +kernel
theorem dX2_isLine_20 : decode cX2_isLine 20 = .ok (.ireturn, 1) := by decide +kernel
theorem dX2_isLine_21 : decode cX2_isLine 21 = .ok (.iload_n 0, 1) := by decide +kernel
theorem dX2_isLine_22 : decode cX2_isLine 22 = .ok (.iconst 1, 1) := by decide +kernel
theorem dX2_isLine_23 : decode cX2_isLine 23 = .ok (.if_icmp .ne 31, 3) := by decide +kernel
theorem dX2_isLine_26 : decode cX2_isLine 26 = .ok (.iload_n 1, 1) := by decide +kernel
theorem dX2_isLine_27 : decode cX2_isLine 27 = .ok (.iconst 1, 1) := by decide +kernel
theorem dX2_isLine_28 : decode cX2_isLine 28 = .ok (.sipush 200, 3) := by decide +kernel
theorem dX2_isLine_31 : decode cX2_isLine 31 = .ok (.invokestatic 107, 3) := by decide +kernel
theorem dX2_isLine_34 : decode cX2_isLine 34 = .ok (.ifCond .eq 18, 3) := by decide +kernel
theorem dX2_isLine_37 : decode cX2_isLine 37 = .ok (.iload_n 2, 1) := by decide +kernel
theorem dX2_isLine_38 : decode cX2_isLine 38 = .ok (.iconst 0, 1) := by decide +kernel
theorem dX2_isLine_39 : decode cX2_isLine 39 = .ok (.sipush 255, 3) := by decide +kernel
theorem dX2_isLine_42 : decode cX2_isLine 42 = .ok (.invokestatic 107, 3) := by decide +kernel
theorem dX2_isLine_45 : decode cX2_isLine 45 = .ok (.ifCond .eq 7, 3) := by decide +kernel
theorem dX2_isLine_48 : decode cX2_isLine 48 = .ok (.iconst 1, 1) := by decide +kernel
theorem dX2_isLine_49 : decode cX2_isLine 49 = .ok (.goto 4, 3) := by decide +kernel
theorem dX2_isLine_52 : decode cX2_isLine 52 = .ok (.iconst 0, 1) := by decide +kernel
theorem dX2_isLine_53 : decode cX2_isLine 53 = .ok (.ireturn, 1) := by decide +kernel
theorem dX2_isLine_54 : decode cX2_isLine 54 = .ok (.iload_n 0, 1) := by decide +kernel
theorem dX2_isLine_55 : decode cX2_isLine 55 = .ok (.iconst 2, 1) := by decide +kernel
theorem dX2_isLine_56 : decode cX2_isLine 56 = .ok (.if_icmp .ne 29, 3) := by decide +kernel
theorem dX2_isLine_59 : decode cX2_isLine 59 = .ok (.iload_n 1, 1) := by decide +kernel
theorem dX2_isLine_60 : decode cX2_isLine 60 = .ok (.invokestatic 86, 3) := by decide +kernel
theorem dX2_isLine_63 : decode cX2_isLine 63 = .ok (.ifCond .eq 20, 3) := by decide +kernel
theorem dX2_isLine_66 : decode cX2_isLine 66 = .ok (.iload_n 2, 1) := by decide +kernel
theorem dX2_isLine_67 : decode cX2_isLine 67 = .ok (.sipush (-1000), 3) := by decide +kernel
theorem dX2_isLine_70 : decode cX2_isLine 70 = .ok (.sipush 1000, 3) := by decide +kernel
theorem dX2_isLine_73 : decode cX2_isLine 73 = .ok (.invokestatic 107, 3) := by decide +kernel
theorem dX2_isLine_76 : decode cX2_isLine 76 = .ok (.ifCond .eq 7, 3) := by decide +kernel
theorem dX2_isLine_79 : decode cX2_isLine 79 = .ok (.iconst 1, 1) := by decide +kernel
theorem dX2_isLine_80 : decode cX2_isLine 80 = .ok (.goto 4, 3) := by decide +kernel
theorem dX2_isLine_83 : decode cX2_isLine 83 = .ok (.iconst 0, 1) := by decide +kernel
theorem dX2_isLine_84 : decode cX2_isLine 84 = .ok (.ireturn, 1) := by decide +kernel
theorem dX2_isLine_85 : decode cX2_isLine 85 = .ok (.iload_n 0, 1) := by decide +kernel
theorem dX2_isLine_86 : decode cX2_isLine 86 = .ok (.iconst 3, 1) := by decide +kernel
theorem dX2_isLine_87 : decode cX2_isLine 87 = .ok (.if_icmp .ne 24, 3) := by decide +kernel
theorem dX2_isLine_90 : decode cX2_isLine 90 = .ok (.iload_n 1, 1) := by decide +kernel
theorem dX2_isLine_91 : decode cX2_isLine 91 = .ok (.invokestatic 86, 3) := by decide +kernel
theorem dX2_isLine_94 : decode cX2_isLine 94 = .ok (.ifCond .eq 17, 3) := by decide +kernel
theorem dX2_isLine_97 : decode cX2_isLine 97 = .ok (.iload_n 2, 1) := by decide +kernel
theorem dX2_isLine_98 : decode cX2_isLine 98 = .ok (.iconst 0, 1) := by decide +kernel
theorem dX2_isLine_99 : decode cX2_isLine 99 = .ok (.bipush 7, 2) := by decide +kernel
theorem dX2_isLine_101 : decode cX2_isLine 101 = .ok (.invokestatic 107, 3) := by decide +kernel
theorem dX2_isLine_104 : decode cX2_isLine 104 = .ok (.ifCond .eq 7, 3) := by decide +kernel
theorem dX2_isLine_107 : decode cX2_isLine 107 = .ok (.iconst 1, 1) := by decide +kernel
theorem dX2_isLine_108 : decode cX2_isLine 108 = .ok (.goto 4, 3) := by decide +kernel
theorem dX2_isLine_111 : decode cX2_isLine 111 = .ok (.iconst 0, 1) := by decide +kernel
theorem dX2_isLine_112 : decode cX2_isLine 112 = .ok (.ireturn, 1) := by decide +kernel
theorem dX2_isLabel_0 : decode cX2_isLabel 0 = .ok (.iload_n 0, 1) := by decide +kernel
theorem dX2_isLabel_1 : decode cX2_isLabel 1 = .ok (.iconst 0, 1) := by decide +kernel
theorem dX2_isLabel_2 : decode cX2_isLabel 2 = .ok (.bipush 15, 2) := by decide +kernel
theorem dX2_isLabel_4 : decode cX2_isLabel 4 = .ok (.invokestatic 107, 3) := by decide +kernel
theorem dX2_isLabel_7 : decode cX2_isLabel 7 = .ok (.ireturn, 1) := by decide +kernel
theorem dX2_isWithin_0 : decode cX2_isWithin 0 = .ok (.iload_n 1, 1) := by decide +kernel
theorem dX2_isWithin_1 : decode cX2_isWithin 1 = .ok (.iload_n 0, 1) := by decide +kernel
theorem dX2_isWithin_2 : decode cX2_isWithin 2 = .ok (.if_icmp .gt 12, 3) := by decide +kernel
theorem dX2_isWithin_5 : decode cX2_isWithin 5 = .ok (.iload_n 0, 1) := by decide +kernel
theorem dX2_isWithin_6 : decode cX2_isWithin 6 = .ok (.iload_n 2, 1) := by decide +kernel
theorem dX2_isWithin_7 : decode cX2_isWithin 7 = .ok (.if_icmp .gt 7, 3) := by decide +kernel
theorem dX2_isWithin_10 : decode cX2_isWithin 10 = .ok (.iconst 1, 1) := by decide +kernel
theorem dX2_isWithin_11 : decode cX2_isWithin 11 = .ok (.goto 4, 3) := by decide +kernel
theorem dX2_isWithin_14 : decode cX2_isWithin 14 = .ok (.iconst 0, 1) := by decide +kernel
theorem dX2_isWithin_15 : decode cX2_isWithin 15 = .ok (.ireturn, 1) := by decide +kernel
theorem dX1_open_0 : decode cX1_open 0 = .ok (.aload_n 0, 1) := by decide +kernel
theorem dX1_open_1 : decode cX1_open 1 = .ok (.getfield 21, 3) := by decide +kernel
theorem dX1_open_4 : decode cX1_open 4 = .ok (.bipush 50, 2) := by decide +kernel
theorem dX1_open_6 : decode cX1_open 6 = .ok (.if_icmp .ge 15, 3) := by decide +kernel
theorem dX1_open_9 : decode cX1_open 9 = .ok (.iload_n 1, 1) := by decide +kernel
theorem dX1_open_10 : decode cX1_open 10 = .ok (.ifCond .lt 11, 3) := by decide +kernel
theorem dX1_open_13 : decode cX1_open 13 = .ok (.iload_n 1, 1) := by decide +kernel
theorem dX1_open_14 : decode cX1_open 14 = .ok (.aload_n 0, 1) := by decide +kernel
theorem dX1_open_15 : decode cX1_open 15 = .ok (.getfield 21, 3) := by decide +kernel
theorem dX1_open_18 : decode cX1_open 18 = .ok (.if_icmp .le 5, 3) := by decide +kernel
theorem dX1_open_21 : decode cX1_open 21 = .ok (.iconst 0, 1) := by decide +kernel
theorem dX1_open_22 : decode cX1_open 22 = .ok (.ireturn, 1) := by decide +kernel
theorem dX1_open_23 : decode cX1_open 23 = .ok (.aload_n 0, 1) := by decide +kernel
theorem dX1_open_24 : decode cX1_open 24 = .ok (.iload_n 1, 1) := by decide +kernel
theorem dX1_open_25 : decode cX1_open 25 = .ok (.iload_n 1, 1) := by decide +kernel
theorem dX1_open_26 : decode cX1_open 26 = .ok (.iconst 1, 1) := by decide +kernel
theorem dX1_open_27 : decode cX1_open 27 = .ok (.iadd, 1) := by decide +kernel
theorem dX1_open_28 : decode cX1_open 28 = .ok (.aload_n 0, 1) := by decide +kernel
theorem dX1_open_29 : decode cX1_open 29 = .ok (.getfield 21, 3) := by decide +kernel
theorem dX1_open_32 : decode cX1_open 32 = .ok (.iload_n 1, 1) := by decide +kernel
theorem dX1_open_33 : decode cX1_open 33 = .ok (.isub, 1) := by decide +kernel
theorem dX1_open_34 : decode cX1_open 34 = .ok (.invokevirtual 25, 3) := by decide +kernel
theorem dX1_open_37 : decode cX1_open 37 = .ok (.aload_n 0, 1) := by decide +kernel
theorem dX1_open_38 : decode cX1_open 38 = .ok (.getfield 9, 3) := by decide +kernel
theorem dX1_open_41 : decode cX1_open 41 = .ok (.iload_n 1, 1) := by decide +kernel
theorem dX1_open_42 : decode cX1_open 42 = .ok (.iload_n 2, 1) := by decide +kernel
theorem dX1_open_43 : decode cX1_open 43 = .ok (.iastore, 1) := by decide +kernel
theorem dX1_open_44 : decode cX1_open 44 = .ok (.aload_n 0, 1) := by decide +kernel
theorem dX1_open_45 : decode cX1_open 45 = .ok (.getfield 15, 3) := by decide +kernel
theorem dX1_open_48 : decode cX1_open 48 = .ok (.iload_n 1, 1) := by decide +kernel
theorem dX1_open_49 : decode cX1_open 49 = .ok (.iload_n 3, 1) := by decide +kernel
theorem dX1_open_50 : decode cX1_open 50 = .ok (.iastore, 1) := by decide +kernel
theorem dX1_open_51 : decode cX1_open 51 = .ok (.aload_n 0, 1) := by decide +kernel
theorem dX1_open_52 : decode cX1_open 52 = .ok (.getfield 18, 3) := by decide +kernel
theorem dX1_open_55 : decode cX1_open 55 = .ok (.iload_n 1, 1) := by decide +kernel
theorem dX1_open_56 : decode cX1_open 56 = .ok (.iload 4, 2) := by decide +kernel
theorem dX1_open_58 : decode cX1_open 58 = .ok (.iastore, 1) := by decide +kernel
theorem dX1_open_59 : decode cX1_open 59 = .ok (.aload_n 0, 1) := by decide +kernel
theorem dX1_open_60 : decode cX1_open 60 = .ok (.dup, 1) := by decide +kernel
theorem dX1_open_61 : decode cX1_open 61 = .ok (.getfield 21, 3) := by decide +kernel
theorem dX1_open_64 : decode cX1_open 64 = .ok (.iconst 1, 1) := by decide +kernel
theorem dX1_open_65 : decode cX1_open 65 = .ok (.iadd, 1) := by decide +kernel
theorem dX1_open_66 : decode cX1_open 66 = .ok (.putfield 21, 3) := by decide +kernel
theorem dX1_open_69 : decode cX1_open 69 = .ok (.iconst 1, 1) := by decide +kernel
theorem dX1_open_70 : decode cX1_open 70 = .ok (.ireturn, 1) := by decide +kernel
theorem dX1_shift_0 : decode cX1_shift 0 = .ok (.aload_n 0, 1) := by decide +kernel
theorem dX1_shift_1 : decode cX1_shift 1 = .ok (.getfield 9, 3) := by decide +kernel
theorem dX1_shift_4 : decode cX1_shift 4 = .ok (.iload_n 1, 1) := by decide +kernel
theorem dX1_shift_5 : decode cX1_shift 5 = .ok (.aload_n 0, 1) := by decide +kernel
theorem dX1_shift_6 : decode cX1_shift 6 = .ok (.getfield 9, 3) := by decide +kernel
theorem dX1_shift_9 : decode cX1_shift 9 = .ok (.iload_n 2, 1) := by decide +kernel
theorem dX1_shift_10 : decode cX1_shift 10 = .ok (.iload_n 3, 1) := by decide +kernel
theorem dX1_shift_11 : decode cX1_shift 11 = .ok (.invokestatic 33, 3) := by decide +kernel
theorem dX1_shift_14 : decode cX1_shift 14 = .ok (.aload_n 0, 1) := by decide +kernel
theorem dX1_shift_15 : decode cX1_shift 15 = .ok (.getfield 15, 3) := by decide +kernel
theorem dX1_shift_18 : decode cX1_shift 18 = .ok (.iload_n 1, 1) := by decide +kernel
theorem dX1_shift_19 : decode cX1_shift 19 = .ok (.aload_n 0, 1) := by decide +kernel
theorem dX1_shift_20 : decode cX1_shift 20 = .ok (.getfield 15, 3) := by decide +kernel
theorem dX1_shift_23 : decode cX1_shift 23 = .ok (.iload_n 2, 1) := by decide +kernel
theorem dX1_shift_24 : decode cX1_shift 24 = .ok (.iload_n 3, 1) := by decide +kernel
theorem dX1_shift_25 : decode cX1_shift 25 = .ok (.invokestatic 33, 3) := by decide +kernel
theorem dX1_shift_28 : decode cX1_shift 28 = .ok (.aload_n 0, 1) := by decide +kernel
theorem dX1_shift_29 : decode cX1_shift 29 = .ok (.getfield 18, 3) := by decide +kernel
theorem dX1_shift_32 : decode cX1_shift 32 = .ok (.iload_n 1, 1) := by decide +kernel
theorem dX1_shift_33 : decode cX1_shift 33 = .ok (.aload_n 0, 1) := by decide +kernel
theorem dX1_shift_34 : decode cX1_shift 34 = .ok (.getfield 18, 3) := by decide +kernel
theorem dX1_shift_37 : decode cX1_shift 37 = .ok (.iload_n 2, 1) := by decide +kernel
theorem dX1_shift_38 : decode cX1_shift 38 = .ok (.iload_n 3, 1) := by decide +kernel
theorem dX1_shift_39 : decode cX1_shift 39 = .ok (.invokestatic 33, 3) := by decide +kernel
theorem dX1_shift_42 : decode cX1_shift 42 = .ok (.return_, 1) := by decide +kernel
theorem dX2_remove_0 : decode cX2_remove 0 = .ok (.aload_n 0, 1) := by decide +kernel
theorem dX2_remove_1 : decode cX2_remove 1 = .ok (.getfield 10, 3) := by decide +kernel
theorem dX2_remove_4 : decode cX2_remove 4 = .ok (.iload_n 1, 1) := by decide +kernel
theorem dX2_remove_5 : decode cX2_remove 5 = .ok (.invokevirtual 31, 3) := by decide +kernel
theorem dX2_remove_8 : decode cX2_remove 8 = .ok (.ireturn, 1) := by decide +kernel
theorem dX1_close_0 : decode cX1_close 0 = .ok (.aload_n 0, 1) := by decide +kernel
theorem dX1_close_1 : decode cX1_close 1 = .ok (.iload_n 1, 1) := by decide +kernel
theorem dX1_close_2 : decode cX1_close 2 = .ok (.invokevirtual 29, 3) := by decide +kernel
theorem dX1_close_5 : decode cX1_close 5 = .ok (.ifCond .ne 5, 3) := by decide +kernel
theorem dX1_close_8 : decode cX1_close 8 = .ok (.iconst 0, 1) := by decide +kernel
theorem dX1_close_9 : decode cX1_close 9 = .ok (.ireturn, 1) := by decide +kernel
theorem dX1_close_10 : decode cX1_close 10 = .ok (.aload_n 0, 1) := by decide +kernel
theorem dX1_close_11 : decode cX1_close 11 = .ok (.iload_n 1, 1) := by decide +kernel
theorem dX1_close_12 : decode cX1_close 12 = .ok (.iconst 1, 1) := by decide +kernel
theorem dX1_close_13 : decode cX1_close 13 = .ok (.iadd, 1) := by decide +kernel
theorem dX1_close_14 : decode cX1_close 14 = .ok (.iload_n 1, 1) := by decide +kernel
theorem dX1_close_15 : decode cX1_close 15 = .ok (.aload_n 0, 1) := by decide +kernel
theorem dX1_close_16 : decode cX1_close 16 = .ok (.getfield 21, 3) := by decide +kernel
theorem dX1_close_19 : decode cX1_close 19 = .ok (.iload_n 1, 1) := by decide +kernel
theorem dX1_close_20 : decode cX1_close 20 = .ok (.isub, 1) := by decide +kernel
theorem dX1_close_21 : decode cX1_close 21 = .ok (.iconst 1, 1) := by decide +kernel
theorem dX1_close_22 : decode cX1_close 22 = .ok (.isub, 1) := by decide +kernel
theorem dX1_close_23 : decode cX1_close 23 = .ok (.invokevirtual 25, 3) := by decide +kernel
theorem dX1_close_26 : decode cX1_close 26 = .ok (.aload_n 0, 1) := by decide +kernel
theorem dX1_close_27 : decode cX1_close 27 = .ok (.dup, 1) := by decide +kernel
theorem dX1_close_28 : decode cX1_close 28 = .ok (.getfield 21, 3) := by decide +kernel
theorem dX1_close_31 : decode cX1_close 31 = .ok (.iconst 1, 1) := by decide +kernel
theorem dX1_close_32 : decode cX1_close 32 = .ok (.isub, 1) := by decide +kernel
theorem dX1_close_33 : decode cX1_close 33 = .ok (.putfield 21, 3) := by decide +kernel
theorem dX1_close_36 : decode cX1_close 36 = .ok (.iconst 1, 1) := by decide +kernel
theorem dX1_close_37 : decode cX1_close 37 = .ok (.ireturn, 1) := by decide +kernel
theorem dX1_has_0 : decode cX1_has 0 = .ok (.iconst 0, 1) := by decide +kernel
theorem dX1_has_1 : decode cX1_has 1 = .ok (.iload_n 1, 1) := by decide +kernel
theorem dX1_has_2 : decode cX1_has 2 = .ok (.if_icmp .gt 15, 3) := by decide +kernel
theorem dX1_has_5 : decode cX1_has 5 = .ok (.iload_n 1, 1) := by decide +kernel
theorem dX1_has_6 : decode cX1_has 6 = .ok (.aload_n 0, 1) := by decide +kernel
theorem dX1_has_7 : decode cX1_has 7 = .ok (.getfield 21, 3) := by decide +kernel
theorem dX1_has_10 : decode cX1_has 10 = .ok (.if_icmp .ge 7, 3) := by decide +kernel
theorem dX1_has_13 : decode cX1_has 13 = .ok (.iconst 1, 1) := by decide +kernel
theorem dX1_has_14 : decode cX1_has 14 = .ok (.goto 4, 3) := by decide +kernel
theorem dX1_has_17 : decode cX1_has 17 = .ok (.iconst 0, 1) := by decide +kernel
theorem dX1_has_18 : decode cX1_has 18 = .ok (.ireturn, 1) := by decide +kernel
theorem dX2_lines_0 : decode cX2_lines 0 = .ok (.aload_n 0, 1) := by decide +kernel
theorem dX2_lines_1 : decode cX2_lines 1 = .ok (.getfield 10, 3) := by decide +kernel
theorem dX2_lines_4 : decode cX2_lines 4 = .ok (.getfield 35, 3) := by decide +kernel
theorem dX2_lines_7 : decode cX2_lines 7 = .ok (.ireturn, 1) := by decide +kernel
theorem dX2_at_0 : decode cX2_at 0 = .ok (.aload_n 0, 1) := by decide +kernel
theorem dX2_at_1 : decode cX2_at 1 = .ok (.getfield 19, 3) := by decide +kernel
theorem dX2_at_4 : decode cX2_at 4 = .ok (.iload_n 1, 1) := by decide +kernel
theorem dX2_at_5 : decode cX2_at 5 = .ok (.invokevirtual 66, 3) := by decide +kernel
theorem dX2_at_8 : decode cX2_at 8 = .ok (.ireturn, 1) := by decide +kernel
theorem dX0_byteAt_0 : decode cX0_byteAt 0 = .ok (.iload_n 1, 1) := by decide +kernel
theorem dX0_byteAt_1 : decode cX0_byteAt 1 = .ok (.ifCond .ge 5, 3) := by decide +kernel
theorem dX0_byteAt_4 : decode cX0_byteAt 4 = .ok (.iconst (-1), 1) := by decide +kernel
theorem dX0_byteAt_5 : decode cX0_byteAt 5 = .ok (.ireturn, 1) := by decide +kernel
theorem dX0_byteAt_6 : decode cX0_byteAt 6 = .ok (.iconst 0, 1) := by decide +kernel
theorem dX0_byteAt_7 : decode cX0_byteAt 7 = .ok (.istore_n 2, 1) := by decide +kernel
theorem dX0_byteAt_8 : decode cX0_byteAt 8 = .ok (.iload_n 2, 1) := by decide +kernel
theorem dX0_byteAt_9 : decode cX0_byteAt 9 = .ok (.aload_n 0, 1) := by decide +kernel
theorem dX0_byteAt_10 : decode cX0_byteAt 10 = .ok (.getfield 12, 3) := by decide +kernel
theorem dX0_byteAt_13 : decode cX0_byteAt 13 = .ok (.getfield 34, 3) := by decide +kernel
theorem dX0_byteAt_16 : decode cX0_byteAt 16 = .ok (.if_icmp .ge 35, 3) := by decide +kernel
theorem dX0_byteAt_19 : decode cX0_byteAt 19 = .ok (.iload_n 1, 1) := by decide +kernel
theorem dX0_byteAt_20 : decode cX0_byteAt 20 = .ok (.aload_n 0, 1) := by decide +kernel
theorem dX0_byteAt_21 : decode cX0_byteAt 21 = .ok (.getfield 18, 3) := by decide +kernel
theorem dX0_byteAt_24 : decode cX0_byteAt 24 = .ok (.iload_n 2, 1) := by decide +kernel
theorem dX0_byteAt_25 : decode cX0_byteAt 25 = .ok (.iconst 1, 1) := by decide +kernel
theorem dX0_byteAt_26 : decode cX0_byteAt 26 = .ok (.iadd, 1) := by decide +kernel
theorem dX0_byteAt_27 : decode cX0_byteAt 27 = .ok (.iaload, 1) := by decide +kernel
theorem dX0_byteAt_28 : decode cX0_byteAt 28 = .ok (.if_icmp .ge 17, 3) := by decide +kernel
theorem dX0_byteAt_31 : decode cX0_byteAt 31 = .ok (.aload_n 0, 1) := by decide +kernel
theorem dX0_byteAt_32 : decode cX0_byteAt 32 = .ok (.iload_n 2, 1) := by decide +kernel
theorem dX0_byteAt_33 : decode cX0_byteAt 33 = .ok (.iload_n 1, 1) := by decide +kernel
theorem dX0_byteAt_34 : decode cX0_byteAt 34 = .ok (.aload_n 0, 1) := by decide +kernel
theorem dX0_byteAt_35 : decode cX0_byteAt 35 = .ok (.getfield 18, 3) := by decide +kernel
theorem dX0_byteAt_38 : decode cX0_byteAt 38 = .ok (.iload_n 2, 1) := by decide +kernel
theorem dX0_byteAt_39 : decode cX0_byteAt 39 = .ok (.iaload, 1) := by decide +kernel
theorem dX0_byteAt_40 : decode cX0_byteAt 40 = .ok (.isub, 1) := by decide +kernel
theorem dX0_byteAt_41 : decode cX0_byteAt 41 = .ok (.invokevirtual 72, 3) := by decide +kernel
theorem dX0_byteAt_44 : decode cX0_byteAt 44 = .ok (.ireturn, 1) := by decide +kernel
theorem dX0_byteAt_45 : decode cX0_byteAt 45 = .ok (.iinc 2 1, 3) := by decide +kernel
theorem dX0_byteAt_48 : decode cX0_byteAt 48 = .ok (.goto (-40), 3) := by decide +kernel
theorem dX0_byteAt_51 : decode cX0_byteAt 51 = .ok (.iconst (-1), 1) := by decide +kernel
theorem dX0_byteAt_52 : decode cX0_byteAt 52 = .ok (.ireturn, 1) := by decide +kernel
theorem dX0_lineByte_0 : decode cX0_lineByte 0 = .ok (.aload_n 0, 1) := by decide +kernel
theorem dX0_lineByte_1 : decode cX0_lineByte 1 = .ok (.getfield 12, 3) := by decide +kernel
theorem dX0_lineByte_4 : decode cX0_lineByte 4 = .ok (.getfield 52, 3) := by decide +kernel
theorem dX0_lineByte_7 : decode cX0_lineByte 7 = .ok (.iload_n 1, 1) := by decide +kernel
theorem dX0_lineByte_8 : decode cX0_lineByte 8 = .ok (.iaload, 1) := by decide +kernel
theorem dX0_lineByte_9 : decode cX0_lineByte 9 = .ok (.istore_n 3, 1) := by decide +kernel
theorem dX0_lineByte_10 : decode cX0_lineByte 10 = .ok (.iload_n 3, 1) := by decide +kernel
theorem dX0_lineByte_11 : decode cX0_lineByte 11 = .ok (.iconst 1, 1) := by decide +kernel
theorem dX0_lineByte_12 : decode cX0_lineByte 12 = .ok (.if_icmp .ne 13, 3) := by decide +kernel
theorem dX0_lineByte_15 : decode cX0_lineByte 15 = .ok (.aload_n 0, 1) := by decide +kernel
theorem dX0_lineByte_16 : decode cX0_lineByte 16 = .ok (.getfield 12, 3) := by decide +kernel
theorem dX0_lineByte_19 : decode cX0_lineByte 19 = .ok (.getfield 69, 3) := by decide +kernel
theorem dX0_lineByte_22 : decode cX0_lineByte 22 = .ok (.iload_n 1, 1) := by decide +kernel
theorem dX0_lineByte_23 : decode cX0_lineByte 23 = .ok (.iaload, 1) := by decide +kernel
theorem dX0_lineByte_24 : decode cX0_lineByte 24 = .ok (.ireturn, 1) := by decide +kernel
theorem dX0_lineByte_25 : decode cX0_lineByte 25 = .ok (.iload_n 3, 1) := by decide +kernel
theorem dX0_lineByte_26 : decode cX0_lineByte 26 = .ok (.iconst 2, 1) := by decide +kernel
theorem dX0_lineByte_27 : decode cX0_lineByte 27 = .ok (.if_icmp .ne 32, 3) := by decide +kernel
theorem dX0_lineByte_30 : decode cX0_lineByte 30 = .ok (.aload_n 0, 1) := by decide +kernel
theorem dX0_lineByte_31 : decode cX0_lineByte 31 = .ok (.getfield 25, 3) := by decide +kernel
theorem dX0_lineByte_34 : decode cX0_lineByte 34 = .ok (.aload_n 0, 1) := by decide +kernel
theorem dX0_lineByte_35 : decode cX0_lineByte 35 = .ok (.getfield 12, 3) := by decide +kernel
theorem dX0_lineByte_38 : decode cX0_lineByte 38 = .ok (.getfield 55, 3) := by decide +kernel
theorem dX0_lineByte_41 : decode cX0_lineByte 41 = .ok (.iload_n 1, 1) := by decide +kernel
theorem dX0_lineByte_42 : decode cX0_lineByte 42 = .ok (.iaload, 1) := by decide +kernel
theorem dX0_lineByte_43 : decode cX0_lineByte 43 = .ok (.iaload, 1) := by decide +kernel
theorem dX0_lineByte_44 : decode cX0_lineByte 44 = .ok (.aload_n 0, 1) := by decide +kernel
theorem dX0_lineByte_45 : decode cX0_lineByte 45 = .ok (.getfield 12, 3) := by decide +kernel
theorem dX0_lineByte_48 : decode cX0_lineByte 48 = .ok (.getfield 69, 3) := by decide +kernel
theorem dX0_lineByte_51 : decode cX0_lineByte 51 = .ok (.iload_n 1, 1) := by decide +kernel
theorem dX0_lineByte_52 : decode cX0_lineByte 52 = .ok (.iaload, 1) := by decide +kernel
theorem dX0_lineByte_53 : decode cX0_lineByte 53 = .ok (.iadd, 1) := by decide +kernel
theorem dX0_lineByte_54 : decode cX0_lineByte 54 = .ok (.iload_n 2, 1) := by decide +kernel
theorem dX0_lineByte_55 : decode cX0_lineByte 55 = .ok (.invokestatic 76, 3) := by decide +kernel
theorem dX0_lineByte_58 : decode cX0_lineByte 58 = .ok (.ireturn, 1) := by decide +kernel
theorem dX0_lineByte_59 : decode cX0_lineByte 59 = .ok (.aload_n 0, 1) := by decide +kernel
theorem dX0_lineByte_60 : decode cX0_lineByte 60 = .ok (.getfield 22, 3) := by decide +kernel
theorem dX0_lineByte_63 : decode cX0_lineByte 63 = .ok (.iload_n 1, 1) := by decide +kernel
theorem dX0_lineByte_64 : decode cX0_lineByte 64 = .ok (.iaload, 1) := by decide +kernel
theorem dX0_lineByte_65 : decode cX0_lineByte 65 = .ok (.iconst 2, 1) := by decide +kernel
theorem dX0_lineByte_66 : decode cX0_lineByte 66 = .ok (.if_icmp .ne 12, 3) := by decide +kernel
theorem dX0_lineByte_69 : decode cX0_lineByte 69 = .ok (.aload_n 0, 1) := by decide +kernel
theorem dX0_lineByte_70 : decode cX0_lineByte 70 = .ok (.iload_n 1, 1) := by decide +kernel
theorem dX0_lineByte_71 : decode cX0_lineByte 71 = .ok (.iload_n 2, 1) := by decide +kernel
theorem dX0_lineByte_72 : decode cX0_lineByte 72 = .ok (.invokevirtual 79, 3) := by decide +kernel
theorem dX0_lineByte_75 : decode cX0_lineByte 75 = .ok (.goto 9, 3) := by decide +kernel
theorem dX0_lineByte_78 : decode cX0_lineByte 78 = .ok (.aload_n 0, 1) := by decide +kernel
theorem dX0_lineByte_79 : decode cX0_lineByte 79 = .ok (.iload_n 1, 1) := by decide +kernel
theorem dX0_lineByte_80 : decode cX0_lineByte 80 = .ok (.iload_n 2, 1) := by decide +kernel
theorem dX0_lineByte_81 : decode cX0_lineByte 81 = .ok (.invokevirtual 82, 3) := by decide +kernel
theorem dX0_lineByte_84 : decode cX0_lineByte 84 = .ok (.ireturn, 1) := by decide +kernel
theorem dX0_pairByte_0 : decode cX0_pairByte 0 = .ok (.iload_n 1, 1) := by decide +kernel
theorem dX0_pairByte_1 : decode cX0_pairByte 1 = .ok (.ifCond .ne 14, 3) := by decide +kernel
theorem dX0_pairByte_4 : decode cX0_pairByte 4 = .ok (.iload_n 0, 1) := by decide +kernel
theorem dX0_pairByte_5 : decode cX0_pairByte 5 = .ok (.bipush 8, 2) := by decide +kernel
theorem dX0_pairByte_7 : decode cX0_pairByte 7 = .ok (.ishr, 1) := by decide +kernel
theorem dX0_pairByte_8 : decode cX0_pairByte 8 = .ok (.sipush 255, 3) := by decide +kernel
theorem dX0_pairByte_11 : decode cX0_pairByte 11 = .ok (.iand, 1) := by decide +kernel
theorem dX0_pairByte_12 : decode cX0_pairByte 12 = .ok (.goto 8, 3) := by decide +kernel
theorem dX0_pairByte_15 : decode cX0_pairByte 15 = .ok (.iload_n 0, 1) := by decide +kernel
theorem dX0_pairByte_16 : decode cX0_pairByte 16 = .ok (.sipush 255, 3) := by decide +kernel
theorem dX0_pairByte_19 : decode cX0_pairByte 19 = .ok (.iand, 1) := by decide +kernel
theorem dX0_pairByte_20 : decode cX0_pairByte 20 = .ok (.ireturn, 1) := by decide +kernel
theorem dX0_longByte_0 : decode cX0_longByte 0 = .ok (.aload_n 0, 1) := by decide +kernel
theorem dX0_longByte_1 : decode cX0_longByte 1 = .ok (.iload_n 1, 1) := by decide +kernel
theorem dX0_longByte_2 : decode cX0_longByte 2 = .ok (.invokevirtual 58, 3) := by decide +kernel
theorem dX0_longByte_5 : decode cX0_longByte 5 = .ok (.iconst 3, 1) := by decide +kernel
theorem dX0_longByte_6 : decode cX0_longByte 6 = .ok (.isub, 1) := by decide +kernel
theorem dX0_longByte_7 : decode cX0_longByte 7 = .ok (.istore_n 3, 1) := by decide +kernel
theorem dX0_longByte_8 : decode cX0_longByte 8 = .ok (.iload_n 2, 1) := by decide +kernel
theorem dX0_longByte_9 : decode cX0_longByte 9 = .ok (.iload_n 3, 1) := by decide +kernel
theorem dX0_longByte_10 : decode cX0_longByte 10 = .ok (.if_icmp .ge 24, 3) := by decide +kernel
theorem dX0_longByte_13 : decode cX0_longByte 13 = .ok (.iload_n 2, 1) := by decide +kernel
theorem dX0_longByte_14 : decode cX0_longByte 14 = .ok (.ifCond .ne 18, 3) := by decide +kernel
theorem dX0_longByte_17 : decode cX0_longByte 17 = .ok (.aload_n 0, 1) := by decide +kernel
theorem dX0_longByte_18 : decode cX0_longByte 18 = .ok (.getfield 12, 3) := by decide +kernel
theorem dX0_longByte_21 : decode cX0_longByte 21 = .ok (.getfield 69, 3) := by decide +kernel
theorem dX0_longByte_24 : decode cX0_longByte 24 = .ok (.iload_n 1, 1) := by decide +kernel
theorem dX0_longByte_25 : decode cX0_longByte 25 = .ok (.iaload, 1) := by decide +kernel
theorem dX0_longByte_26 : decode cX0_longByte 26 = .ok (.invokestatic 85, 3) := by decide +kernel
theorem dX0_longByte_29 : decode cX0_longByte 29 = .ok (.goto 4, 3) := by decide +kernel
theorem dX0_longByte_32 : decode cX0_longByte 32 = .ok (.iconst 3, 1) := by decide +kernel
theorem dX0_longByte_33 : decode cX0_longByte 33 = .ok (.ireturn, 1) := by decide +kernel
theorem dX0_longByte_34 : decode cX0_longByte 34 = .ok (.iload_n 2, 1) := by decide +kernel
theorem dX0_longByte_35 : decode cX0_longByte 35 = .ok (.iload_n 3, 1) := by decide +kernel
theorem dX0_longByte_36 : decode cX0_longByte 36 = .ok (.if_icmp .ne 8, 3) := by decide +kernel
theorem dX0_longByte_39 : decode cX0_longByte 39 = .ok (.bipush 64, 2) := by decide +kernel
theorem dX0_longByte_41 : decode cX0_longByte 41 = .ok (.goto 16, 3) := by decide +kernel
theorem dX0_longByte_44 : decode cX0_longByte 44 = .ok (.aload_n 0, 1) := by decide +kernel
theorem dX0_longByte_45 : decode cX0_longByte 45 = .ok (.iload_n 1, 1) := by decide +kernel
theorem dX0_longByte_46 : decode cX0_longByte 46 = .ok (.invokevirtual 62, 3) := by decide +kernel
theorem dX0_longByte_49 : decode cX0_longByte 49 = .ok (.iload_n 2, 1) := by decide +kernel
theorem dX0_longByte_50 : decode cX0_longByte 50 = .ok (.iload_n 3, 1) := by decide +kernel
theorem dX0_longByte_51 : decode cX0_longByte 51 = .ok (.isub, 1) := by decide +kernel
theorem dX0_longByte_52 : decode cX0_longByte 52 = .ok (.iconst 1, 1) := by decide +kernel
theorem dX0_longByte_53 : decode cX0_longByte 53 = .ok (.isub, 1) := by decide +kernel
theorem dX0_longByte_54 : decode cX0_longByte 54 = .ok (.invokestatic 76, 3) := by decide +kernel
theorem dX0_longByte_57 : decode cX0_longByte 57 = .ok (.ireturn, 1) := by decide +kernel
theorem dX0_lineSize_0 : decode cX0_lineSize 0 = .ok (.aload_n 0, 1) := by decide +kernel
theorem dX0_lineSize_1 : decode cX0_lineSize 1 = .ok (.getfield 12, 3) := by decide +kernel
theorem dX0_lineSize_4 : decode cX0_lineSize 4 = .ok (.getfield 52, 3) := by decide +kernel
theorem dX0_lineSize_7 : decode cX0_lineSize 7 = .ok (.iload_n 1, 1) := by decide +kernel
theorem dX0_lineSize_8 : decode cX0_lineSize 8 = .ok (.iaload, 1) := by decide +kernel
theorem dX0_lineSize_9 : decode cX0_lineSize 9 = .ok (.istore_n 2, 1) := by decide +kernel
theorem dX0_lineSize_10 : decode cX0_lineSize 10 = .ok (.iload_n 2, 1) := by decide +kernel
theorem dX0_lineSize_11 : decode cX0_lineSize 11 = .ok (.iconst 1, 1) := by decide +kernel
theorem dX0_lineSize_12 : decode cX0_lineSize 12 = .ok (.if_icmp .ne 13, 3) := by decide +kernel
theorem dX0_lineSize_15 : decode cX0_lineSize 15 = .ok (.aload_n 0, 1) := by decide +kernel
theorem dX0_lineSize_16 : decode cX0_lineSize 16 = .ok (.getfield 12, 3) := by decide +kernel
theorem dX0_lineSize_19 : decode cX0_lineSize 19 = .ok (.getfield 55, 3) := by decide +kernel
theorem dX0_lineSize_22 : decode cX0_lineSize 22 = .ok (.iload_n 1, 1) := by decide +kernel
theorem dX0_lineSize_23 : decode cX0_lineSize 23 = .ok (.iaload, 1) := by decide +kernel
theorem dX0_lineSize_24 : decode cX0_lineSize 24 = .ok (.ireturn, 1) := by decide +kernel
theorem dX0_lineSize_25 : decode cX0_lineSize 25 = .ok (.iload_n 2, 1) := by decide +kernel
theorem dX0_lineSize_26 : decode cX0_lineSize 26 = .ok (.iconst 2, 1) := by decide +kernel
theorem dX0_lineSize_27 : decode cX0_lineSize 27 = .ok (.if_icmp .ne 5, 3) := by decide +kernel
theorem dX0_lineSize_30 : decode cX0_lineSize 30 = .ok (.iconst 2, 1) := by decide +kernel
theorem dX0_lineSize_31 : decode cX0_lineSize 31 = .ok (.ireturn, 1) := by decide +kernel
theorem dX0_lineSize_32 : decode cX0_lineSize 32 = .ok (.aload_n 0, 1) := by decide +kernel
theorem dX0_lineSize_33 : decode cX0_lineSize 33 = .ok (.getfield 22, 3) := by decide +kernel
theorem dX0_lineSize_36 : decode cX0_lineSize 36 = .ok (.iload_n 1, 1) := by decide +kernel
theorem dX0_lineSize_37 : decode cX0_lineSize 37 = .ok (.iaload, 1) := by decide +kernel
theorem dX0_lineSize_38 : decode cX0_lineSize 38 = .ok (.iconst 2, 1) := by decide +kernel
theorem dX0_lineSize_39 : decode cX0_lineSize 39 = .ok (.if_icmp .ne 21, 3) := by decide +kernel
theorem dX0_lineSize_42 : decode cX0_lineSize 42 = .ok (.aload_n 0, 1) := by decide +kernel
theorem dX0_lineSize_43 : decode cX0_lineSize 43 = .ok (.getfield 12, 3) := by decide +kernel
theorem dX0_lineSize_46 : decode cX0_lineSize 46 = .ok (.getfield 69, 3) := by decide +kernel
theorem dX0_lineSize_49 : decode cX0_lineSize 49 = .ok (.iload_n 1, 1) := by decide +kernel
theorem dX0_lineSize_50 : decode cX0_lineSize 50 = .ok (.iaload, 1) := by decide +kernel
theorem dX0_lineSize_51 : decode cX0_lineSize 51 = .ok (.ifCond .ne 7, 3) := by decide +kernel
theorem dX0_lineSize_54 : decode cX0_lineSize 54 = .ok (.iconst 3, 1) := by decide +kernel
theorem dX0_lineSize_55 : decode cX0_lineSize 55 = .ok (.goto 4, 3) := by decide +kernel
theorem dX0_lineSize_58 : decode cX0_lineSize 58 = .ok (.iconst 5, 1) := by decide +kernel
theorem dX0_lineSize_59 : decode cX0_lineSize 59 = .ok (.ireturn, 1) := by decide +kernel
theorem dX0_lineSize_60 : decode cX0_lineSize 60 = .ok (.aload_n 0, 1) := by decide +kernel
theorem dX0_lineSize_61 : decode cX0_lineSize 61 = .ok (.getfield 22, 3) := by decide +kernel
theorem dX0_lineSize_64 : decode cX0_lineSize 64 = .ok (.iload_n 1, 1) := by decide +kernel
theorem dX0_lineSize_65 : decode cX0_lineSize 65 = .ok (.iaload, 1) := by decide +kernel
theorem dX0_lineSize_66 : decode cX0_lineSize 66 = .ok (.iconst 1, 1) := by decide +kernel
theorem dX0_lineSize_67 : decode cX0_lineSize 67 = .ok (.if_icmp .ne 7, 3) := by decide +kernel
theorem dX0_lineSize_70 : decode cX0_lineSize 70 = .ok (.iconst 2, 1) := by decide +kernel
theorem dX0_lineSize_71 : decode cX0_lineSize 71 = .ok (.goto 4, 3) := by decide +kernel
theorem dX0_lineSize_74 : decode cX0_lineSize 74 = .ok (.iconst 0, 1) := by decide +kernel
theorem dX0_lineSize_75 : decode cX0_lineSize 75 = .ok (.ireturn, 1) := by decide +kernel
theorem dX0_oppositeCode_0 : decode cX0_oppositeCode 0 = .ok (.bipush 32, 2) := by decide +kernel
theorem dX0_oppositeCode_2 : decode cX0_oppositeCode 2 = .ok (.iload_n 0, 1) := by decide +kernel
theorem dX0_oppositeCode_3 : decode cX0_oppositeCode 3 = .ok (.iconst 4, 1) := by decide +kernel
theorem dX0_oppositeCode_4 : decode cX0_oppositeCode 4 = .ok (.ixor, 1) := by decide +kernel
theorem dX0_oppositeCode_5 : decode cX0_oppositeCode 5 = .ok (.iadd, 1) := by decide +kernel
theorem dX0_oppositeCode_6 : decode cX0_oppositeCode 6 = .ok (.istore_n 1, 1) := by decide +kernel
theorem dX0_oppositeCode_7 : decode cX0_oppositeCode 7 = .ok (.iload_n 1, 1) := by decide +kernel
theorem dX0_oppositeCode_8 : decode cX0_oppositeCode 8 = .ok (.bipush 32, 2) := by decide +kernel
theorem dX0_oppositeCode_10 : decode cX0_oppositeCode 10 = .ok (.if_icmp .ne 10, 3) := by decide +kernel
theorem dX0_oppositeCode_13 : decode cX0_oppositeCode 13 = .ok (.bipush 40, 2) := by decide +kernel
theorem dX0_oppositeCode_15 : decode cX0_oppositeCode 15 = .ok (.iload_n 0, 1) := by decide +kernel
theorem dX0_oppositeCode_16 : decode cX0_oppositeCode 16 = .ok (.iadd, 1) := by decide +kernel
theorem dX0_oppositeCode_17 : decode cX0_oppositeCode 17 = .ok (.goto 4, 3) := by decide +kernel
theorem dX0_oppositeCode_20 : decode cX0_oppositeCode 20 = .ok (.iload_n 1, 1) := by decide +kernel
theorem dX0_oppositeCode_21 : decode cX0_oppositeCode 21 = .ok (.ireturn, 1) := by decide +kernel
theorem dX0_distance_0 : decode cX0_distance 0 = .ok (.aload_n 0, 1) := by decide +kernel
theorem dX0_distance_1 : decode cX0_distance 1 = .ok (.getfield 25, 3) := by decide +kernel
theorem dX0_distance_4 : decode cX0_distance 4 = .ok (.aload_n 0, 1) := by decide +kernel
theorem dX0_distance_5 : decode cX0_distance 5 = .ok (.getfield 12, 3) := by decide +kernel
theorem dX0_distance_8 : decode cX0_distance 8 = .ok (.getfield 55, 3) := by decide +kernel
theorem dX0_distance_11 : decode cX0_distance 11 = .ok (.iload_n 1, 1) := by decide +kernel
theorem dX0_distance_12 : decode cX0_distance 12 = .ok (.iaload, 1) := by decide +kernel
theorem dX0_distance_13 : decode cX0_distance 13 = .ok (.iaload, 1) := by decide +kernel
theorem dX0_distance_14 : decode cX0_distance 14 = .ok (.aload_n 0, 1) := by decide +kernel
theorem dX0_distance_15 : decode cX0_distance 15 = .ok (.getfield 18, 3) := by decide +kernel
theorem dX0_distance_18 : decode cX0_distance 18 = .ok (.iload_n 1, 1) := by decide +kernel
theorem dX0_distance_19 : decode cX0_distance 19 = .ok (.iconst 1, 1) := by decide +kernel
theorem dX0_distance_20 : decode cX0_distance 20 = .ok (.iadd, 1) := by decide +kernel
theorem dX0_distance_21 : decode cX0_distance 21 = .ok (.iaload, 1) := by decide +kernel
theorem dX0_distance_22 : decode cX0_distance 22 = .ok (.isub, 1) := by decide +kernel
theorem dX0_distance_23 : decode cX0_distance 23 = .ok (.ireturn, 1) := by decide +kernel
theorem dX0_shortByte_0 : decode cX0_shortByte 0 = .ok (.iload_n 2, 1) := by decide +kernel
theorem dX0_shortByte_1 : decode cX0_shortByte 1 = .ok (.ifCond .ne 18, 3) := by decide +kernel
theorem dX0_shortByte_4 : decode cX0_shortByte 4 = .ok (.bipush 32, 2) := by decide +kernel
theorem dX0_shortByte_6 : decode cX0_shortByte 6 = .ok (.aload_n 0, 1) := by decide +kernel
theorem dX0_shortByte_7 : decode cX0_shortByte 7 = .ok (.getfield 12, 3) := by decide +kernel
theorem dX0_shortByte_10 : decode cX0_shortByte 10 = .ok (.getfield 69, 3) := by decide +kernel
theorem dX0_shortByte_13 : decode cX0_shortByte 13 = .ok (.iload_n 1, 1) := by decide +kernel
theorem dX0_shortByte_14 : decode cX0_shortByte 14 = .ok (.iaload, 1) := by decide +kernel
theorem dX0_shortByte_15 : decode cX0_shortByte 15 = .ok (.iadd, 1) := by decide +kernel
theorem dX0_shortByte_16 : decode cX0_shortByte 16 = .ok (.goto 12, 3) := by decide +kernel
theorem dX0_shortByte_19 : decode cX0_shortByte 19 = .ok (.aload_n 0, 1) := by decide +kernel
theorem dX0_shortByte_20 : decode cX0_shortByte 20 = .ok (.iload_n 1, 1) := by decide +kernel
theorem dX0_shortByte_21 : decode cX0_shortByte 21 = .ok (.invokevirtual 62, 3) := by decide +kernel
theorem dX0_shortByte_24 : decode cX0_shortByte 24 = .ok (.sipush 255, 3) := by decide +kernel
theorem dX0_shortByte_27 : decode cX0_shortByte 27 = .ok (.iand, 1) := by decide +kernel
theorem dX0_shortByte_28 : decode cX0_shortByte 28 = .ok (.ireturn, 1) := by decide +kernel
theorem dX2_address_0 : decode cX2_address 0 = .ok (.aload_n 0, 1) := by decide +kernel
theorem dX2_address_1 : decode cX2_address 1 = .ok (.getfield 19, 3) := by decide +kernel
theorem dX2_address_4 : decode cX2_address 4 = .ok (.getfield 70, 3) := by decide +kernel
theorem dX2_address_7 : decode cX2_address 7 = .ok (.iload_n 1, 1) := by decide +kernel
theorem dX2_address_8 : decode cX2_address 8 = .ok (.invokevirtual 73, 3) := by decide +kernel
theorem dX2_address_11 : decode cX2_address 11 = .ok (.ifCond .eq 15, 3) := by decide +kernel
theorem dX2_address_14 : decode cX2_address 14 = .ok (.aload_n 0, 1) := by decide +kernel
theorem dX2_address_15 : decode cX2_address 15 = .ok (.getfield 19, 3) := by decide +kernel
theorem dX2_address_18 : decode cX2_address 18 = .ok (.getfield 76, 3) := by decide +kernel
theorem dX2_address_21 : decode cX2_address 21 = .ok (.iload_n 1, 1) := by decide +kernel
theorem dX2_address_22 : decode cX2_address 22 = .ok (.iaload, 1) := by decide +kernel
theorem dX2_address_23 : decode cX2_address 23 = .ok (.goto 4, 3) := by decide +kernel
theorem dX2_address_26 : decode cX2_address 26 = .ok (.iconst (-1), 1) := by decide +kernel
theorem dX2_address_27 : decode cX2_address 27 = .ok (.ireturn, 1) := by decide +kernel
theorem dX2_form_0 : decode cX2_form 0 = .ok (.aload_n 0, 1) := by decide +kernel
theorem dX2_form_1 : decode cX2_form 1 = .ok (.getfield 19, 3) := by decide +kernel
theorem dX2_form_4 : decode cX2_form 4 = .ok (.getfield 70, 3) := by decide +kernel
theorem dX2_form_7 : decode cX2_form 7 = .ok (.iload_n 1, 1) := by decide +kernel
theorem dX2_form_8 : decode cX2_form 8 = .ok (.invokevirtual 73, 3) := by decide +kernel
theorem dX2_form_11 : decode cX2_form 11 = .ok (.ifCond .eq 15, 3) := by decide +kernel
theorem dX2_form_14 : decode cX2_form 14 = .ok (.aload_n 0, 1) := by decide +kernel
theorem dX2_form_15 : decode cX2_form 15 = .ok (.getfield 19, 3) := by decide +kernel
theorem dX2_form_18 : decode cX2_form 18 = .ok (.getfield 80, 3) := by decide +kernel
theorem dX2_form_21 : decode cX2_form 21 = .ok (.iload_n 1, 1) := by decide +kernel
theorem dX2_form_22 : decode cX2_form 22 = .ok (.iaload, 1) := by decide +kernel
theorem dX2_form_23 : decode cX2_form 23 = .ok (.goto 4, 3) := by decide +kernel
theorem dX2_form_26 : decode cX2_form 26 = .ok (.iconst (-1), 1) := by decide +kernel
theorem dX2_form_27 : decode cX2_form 27 = .ok (.ireturn, 1) := by decide +kernel
theorem dX2_longs_0 : decode cX2_longs 0 = .ok (.aload_n 0, 1) := by decide +kernel
theorem dX2_longs_1 : decode cX2_longs 1 = .ok (.getfield 19, 3) := by decide +kernel
theorem dX2_longs_4 : decode cX2_longs 4 = .ok (.invokevirtual 83, 3) := by decide +kernel
theorem dX2_longs_7 : decode cX2_longs 7 = .ok (.ireturn, 1) := by decide +kernel
theorem dX0_countLong_0 : decode cX0_countLong 0 = .ok (.iconst 0, 1) := by decide +kernel
theorem dX0_countLong_1 : decode cX0_countLong 1 = .ok (.istore_n 1, 1) := by decide +kernel
theorem dX0_countLong_2 : decode cX0_countLong 2 = .ok (.iconst 0, 1) := by decide +kernel
theorem dX0_countLong_3 : decode cX0_countLong 3 = .ok (.istore_n 2, 1) := by decide +kernel
theorem dX0_countLong_4 : decode cX0_countLong 4 = .ok (.iload_n 2, 1) := by decide +kernel
theorem dX0_countLong_5 : decode cX0_countLong 5 = .ok (.aload_n 0, 1) := by decide +kernel
theorem dX0_countLong_6 : decode cX0_countLong 6 = .ok (.getfield 12, 3) := by decide +kernel
theorem dX0_countLong_9 : decode cX0_countLong 9 = .ok (.getfield 34, 3) := by decide +kernel
theorem dX0_countLong_12 : decode cX0_countLong 12 = .ok (.if_icmp .ge 22, 3) := by decide +kernel
theorem dX0_countLong_15 : decode cX0_countLong 15 = .ok (.aload_n 0, 1) := by decide +kernel
theorem dX0_countLong_16 : decode cX0_countLong 16 = .ok (.getfield 22, 3) := by decide +kernel
theorem dX0_countLong_19 : decode cX0_countLong 19 = .ok (.iload_n 2, 1) := by decide +kernel
theorem dX0_countLong_20 : decode cX0_countLong 20 = .ok (.iaload, 1) := by decide +kernel
theorem dX0_countLong_21 : decode cX0_countLong 21 = .ok (.iconst 2, 1) := by decide +kernel
theorem dX0_countLong_22 : decode cX0_countLong 22 = .ok (.if_icmp .ne 6, 3) := by decide +kernel
theorem dX0_countLong_25 : decode cX0_countLong 25 = .ok (.iinc 1 1, 3) := by decide +kernel
theorem dX0_countLong_28 : decode cX0_countLong 28 = .ok (.iinc 2 1, 3) := by decide +kernel
theorem dX0_countLong_31 : decode cX0_countLong 31 = .ok (.goto (-27), 3) := by decide +kernel
theorem dX0_countLong_34 : decode cX0_countLong 34 = .ok (.iload_n 1, 1) := by decide +kernel
theorem dX0_countLong_35 : decode cX0_countLong 35 = .ok (.ireturn, 1) := by decide +kernel
theorem dX2_value_0 : decode cX2_value 0 = .ok (.iload_n 1, 1) := by decide +kernel
theorem dX2_value_1 : decode cX2_value 1 = .ok (.invokestatic 86, 3) := by decide +kernel
theorem dX2_value_4 : decode cX2_value 4 = .ok (.ifCond .eq 15, 3) := by decide +kernel
theorem dX2_value_7 : decode cX2_value 7 = .ok (.aload_n 0, 1) := by decide +kernel
theorem dX2_value_8 : decode cX2_value 8 = .ok (.getfield 19, 3) := by decide +kernel
theorem dX2_value_11 : decode cX2_value 11 = .ok (.getfield 89, 3) := by decide +kernel
theorem dX2_value_14 : decode cX2_value 14 = .ok (.iload_n 1, 1) := by decide +kernel
theorem dX2_value_15 : decode cX2_value 15 = .ok (.iaload, 1) := by decide +kernel
theorem dX2_value_16 : decode cX2_value 16 = .ok (.goto 4, 3) := by decide +kernel
theorem dX2_value_19 : decode cX2_value 19 = .ok (.iconst (-1), 1) := by decide +kernel
theorem dX2_value_20 : decode cX2_value 20 = .ok (.ireturn, 1) := by decide +kernel
theorem dX2_jumps_0 : decode cX2_jumps 0 = .ok (.aload_n 0, 1) := by decide +kernel
theorem dX2_jumps_1 : decode cX2_jumps 1 = .ok (.getfield 19, 3) := by decide +kernel
theorem dX2_jumps_4 : decode cX2_jumps 4 = .ok (.iload_n 1, 1) := by decide +kernel
theorem dX2_jumps_5 : decode cX2_jumps 5 = .ok (.invokevirtual 92, 3) := by decide +kernel
theorem dX2_jumps_8 : decode cX2_jumps 8 = .ok (.iconst 1, 1) := by decide +kernel
theorem dX2_jumps_9 : decode cX2_jumps 9 = .ok (.if_icmp .le 7, 3) := by decide +kernel
theorem dX2_jumps_12 : decode cX2_jumps 12 = .ok (.iconst 1, 1) := by decide +kernel
theorem dX2_jumps_13 : decode cX2_jumps 13 = .ok (.goto 4, 3) := by decide +kernel
theorem dX2_jumps_16 : decode cX2_jumps 16 = .ok (.iconst 0, 1) := by decide +kernel
theorem dX2_jumps_17 : decode cX2_jumps 17 = .ok (.ireturn, 1) := by decide +kernel
theorem dX0_operationSize_0 : decode cX0_operationSize 0 = .ok (.aload_n 0, 1) := by decide +kernel
theorem dX0_operationSize_1 : decode cX0_operationSize 1 = .ok (.iload_n 1, 1) := by decide +kernel
theorem dX0_operationSize_2 : decode cX0_operationSize 2 = .ok (.invokevirtual 88, 3) := by decide +kernel
theorem dX0_operationSize_5 : decode cX0_operationSize 5 = .ok (.istore_n 2, 1) := by decide +kernel
theorem dX0_operationSize_6 : decode cX0_operationSize 6 = .ok (.iload_n 2, 1) := by decide +kernel
theorem dX0_operationSize_7 : decode cX0_operationSize 7 = .ok (.iconst (-1), 1) := by decide +kernel
theorem dX0_operationSize_8 : decode cX0_operationSize 8 = .ok (.if_icmp .ne 5, 3) := by decide +kernel
theorem dX0_operationSize_11 : decode cX0_operationSize 11 = .ok (.iconst 0, 1) := by decide +kernel
theorem dX0_operationSize_12 : decode cX0_operationSize 12 = .ok (.ireturn, 1) := by decide +kernel
theorem dX0_operationSize_13 : decode cX0_operationSize 13 = .ok (.iconst 1, 1) := by decide +kernel
theorem dX0_operationSize_14 : decode cX0_operationSize 14 = .ok (.istore_n 3, 1) := by decide +kernel
theorem dX0_operationSize_15 : decode cX0_operationSize 15 = .ok (.iload_n 2, 1) := by decide +kernel
theorem dX0_operationSize_16 : decode cX0_operationSize 16 = .ok (.bipush 32, 2) := by decide +kernel
theorem dX0_operationSize_18 : decode cX0_operationSize 18 = .ok (.bipush 47, 2) := by decide +kernel
theorem dX0_operationSize_20 : decode cX0_operationSize 20 = .ok (.invokestatic 65, 3) := by decide +kernel
theorem dX0_operationSize_23 : decode cX0_operationSize 23 = .ok (.ifCond .eq 8, 3) := by decide +kernel
theorem dX0_operationSize_26 : decode cX0_operationSize 26 = .ok (.iconst 2, 1) := by decide +kernel
theorem dX0_operationSize_27 : decode cX0_operationSize 27 = .ok (.istore_n 3, 1) := by decide +kernel
theorem dX0_operationSize_28 : decode cX0_operationSize 28 = .ok (.goto 11, 3) := by decide +kernel
theorem dX0_operationSize_31 : decode cX0_operationSize 31 = .ok (.iload_n 2, 1) := by decide +kernel
theorem dX0_operationSize_32 : decode cX0_operationSize 32 = .ok (.bipush 64, 2) := by decide +kernel
theorem dX0_operationSize_34 : decode cX0_operationSize 34 = .ok (.if_icmp .ne 5, 3) := by decide +kernel
