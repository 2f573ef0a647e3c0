theorem dX4_tenTo_0 : decode cX4_tenTo 0 = .ok (.iload_n 0, 1) := by decide +kernel
theorem dX4_tenTo_1 : decode cX4_tenTo 1 = .ok (.ifCond .lt 11, 3) := by decide +kernel
theorem dX4_tenTo_4 : decode cX4_tenTo 4 = .ok (.iload_n 0, 1) := by decide +kernel
theorem dX4_tenTo_5 : decode cX4_tenTo 5 = .ok (.getstatic 7, 3) := by decide +kernel
theorem dX4_tenTo_8 : decode cX4_tenTo 8 = .ok (.arraylength, 1) := by decide +kernel
theorem dX4_tenTo_9 : decode cX4_tenTo 9 = .ok (.if_icmp .lt 7, 3) := by decide +kernel
theorem dX4_tenTo_12 : decode cX4_tenTo 12 = .ok (.iconst 1, 1) := by decide +kernel
theorem dX4_tenTo_13 : decode cX4_tenTo 13 = .ok (.goto 8, 3) := by decide +kernel
theorem dX4_tenTo_16 : decode cX4_tenTo 16 = .ok (.getstatic 7, 3) := by decide +kernel
theorem dX4_tenTo_19 : decode cX4_tenTo 19 = .ok (.iload_n 0, 1) := by decide +kernel
theorem dX4_tenTo_20 : decode cX4_tenTo 20 = .ok (.iaload, 1) := by decide +kernel
theorem dX4_tenTo_21 : decode cX4_tenTo 21 = .ok (.ireturn, 1) := by decide +kernel
theorem dX4_longTenTo_0 : decode cX4_longTenTo 0 = .ok (.iload_n 0, 1) := by decide +kernel
theorem dX4_longTenTo_1 : decode cX4_longTenTo 1 = .ok (.ifCond .lt 11, 3) := by decide +kernel
theorem dX4_longTenTo_4 : decode cX4_longTenTo 4 = .ok (.iload_n 0, 1) := by decide +kernel
theorem dX4_longTenTo_5 : decode cX4_longTenTo 5 = .ok (.getstatic 13, 3) := by decide +kernel
theorem dX4_longTenTo_8 : decode cX4_longTenTo 8 = .ok (.arraylength, 1) := by decide +kernel
theorem dX4_longTenTo_9 : decode cX4_longTenTo 9 = .ok (.if_icmp .lt 7, 3) := by decide +kernel
theorem dX4_longTenTo_12 : decode cX4_longTenTo 12 = .ok (.lconst 1, 1) := by decide +kernel
theorem dX4_longTenTo_13 : decode cX4_longTenTo 13 = .ok (.goto 8, 3) := by decide +kernel
theorem dX4_longTenTo_16 : decode cX4_longTenTo 16 = .ok (.getstatic 13, 3) := by decide +kernel
theorem dX4_longTenTo_19 : decode cX4_longTenTo 19 = .ok (.iload_n 0, 1) := by decide +kernel
theorem dX4_longTenTo_20 : decode cX4_longTenTo 20 = .ok (.laload, 1) := by decide +kernel
theorem dX4_longTenTo_21 : decode cX4_longTenTo 21 = .ok (.lreturn, 1) := by decide +kernel
theorem dX4_sizeOf_0 : decode cX4_sizeOf 0 = .ok (.iconst 1, 1) := by decide +kernel
theorem dX4_sizeOf_1 : decode cX4_sizeOf 1 = .ok (.istore_n 2, 1) := by decide +kernel
theorem dX4_sizeOf_2 : decode cX4_sizeOf 2 = .ok (.iload_n 2, 1) := by decide +kernel
theorem dX4_sizeOf_3 : decode cX4_sizeOf 3 = .ok (.getstatic 13, 3) := by decide +kernel
theorem dX4_sizeOf_6 : decode cX4_sizeOf 6 = .ok (.arraylength, 1) := by decide +kernel
theorem dX4_sizeOf_7 : decode cX4_sizeOf 7 = .ok (.if_icmp .ge 21, 3) := by decide +kernel
theorem dX4_sizeOf_10 : decode cX4_sizeOf 10 = .ok (.lload_n 0, 1) := by decide +kernel
theorem dX4_sizeOf_11 : decode cX4_sizeOf 11 = .ok (.getstatic 13, 3) := by decide +kernel
theorem dX4_sizeOf_14 : decode cX4_sizeOf 14 = .ok (.iload_n 2, 1) := by decide +kernel
theorem dX4_sizeOf_15 : decode cX4_sizeOf 15 = .ok (.laload, 1) := by decide +kernel
theorem dX4_sizeOf_16 : decode cX4_sizeOf 16 = .ok (.lcmp, 1) := by decide +kernel
theorem dX4_sizeOf_17 : decode cX4_sizeOf 17 = .ok (.ifCond .ge 5, 3) := by decide +kernel
theorem dX4_sizeOf_20 : decode cX4_sizeOf 20 = .ok (.iload_n 2, 1) := by decide +kernel
theorem dX4_sizeOf_21 : decode cX4_sizeOf 21 = .ok (.ireturn, 1) := by decide +kernel
theorem dX4_sizeOf_22 : decode cX4_sizeOf 22 = .ok (.iinc 2 1, 3) := by decide +kernel
theorem dX4_sizeOf_25 : decode cX4_sizeOf 25 = .ok (.goto (-23), 3) := by decide +kernel
theorem dX4_sizeOf_28 : decode cX4_sizeOf 28 = .ok (.getstatic 13, 3) := by decide +kernel
theorem dX4_sizeOf_31 : decode cX4_sizeOf 31 = .ok (.arraylength, 1) := by decide +kernel
theorem dX4_sizeOf_32 : decode cX4_sizeOf 32 = .ok (.ireturn, 1) := by decide +kernel
theorem dX4_figureAt_0 : decode cX4_figureAt 0 = .ok (.iload_n 1, 1) := by decide +kernel
theorem dX4_figureAt_1 : decode cX4_figureAt 1 = .ok (.ifCond .lt 11, 3) := by decide +kernel
theorem dX4_figureAt_4 : decode cX4_figureAt 4 = .ok (.iload_n 1, 1) := by decide +kernel
theorem dX4_figureAt_5 : decode cX4_figureAt 5 = .ok (.getstatic 7, 3) := by decide +kernel
theorem dX4_figureAt_8 : decode cX4_figureAt 8 = .ok (.arraylength, 1) := by decide +kernel
theorem dX4_figureAt_9 : decode cX4_figureAt 9 = .ok (.if_icmp .lt 7, 3) := by decide +kernel
theorem dX4_figureAt_12 : decode cX4_figureAt 12 = .ok (.iconst 0, 1) := by decide +kernel
theorem dX4_figureAt_13 : decode cX4_figureAt 13 = .ok (.goto 13, 3) := by decide +kernel
theorem dX4_figureAt_16 : decode cX4_figureAt 16 = .ok (.iload_n 0, 1) := by decide +kernel
theorem dX4_figureAt_17 : decode cX4_figureAt 17 = .ok (.getstatic 7, 3) := by decide +kernel
theorem dX4_figureAt_20 : decode cX4_figureAt 20 = .ok (.iload_n 1, 1) := by decide +kernel
theorem dX4_figureAt_21 : decode cX4_figureAt 21 = .ok (.iaload, 1) := by decide +kernel
theorem dX4_figureAt_22 : decode cX4_figureAt 22 = .ok (.idiv, 1) := by decide +kernel
theorem dX4_figureAt_23 : decode cX4_figureAt 23 = .ok (.bipush 10, 2) := by decide +kernel
theorem dX4_figureAt_25 : decode cX4_figureAt 25 = .ok (.irem, 1) := by decide +kernel
theorem dX4_figureAt_26 : decode cX4_figureAt 26 = .ok (.ireturn, 1) := by decide +kernel
theorem dX4_noughtsIn_0 : decode cX4_noughtsIn 0 = .ok (.iconst 0, 1) := by decide +kernel
theorem dX4_noughtsIn_1 : decode cX4_noughtsIn 1 = .ok (.istore_n 1, 1) := by decide +kernel
theorem dX4_noughtsIn_2 : decode cX4_noughtsIn 2 = .ok (.iload_n 0, 1) := by decide +kernel
theorem dX4_noughtsIn_3 : decode cX4_noughtsIn 3 = .ok (.istore_n 2, 1) := by decide +kernel
theorem dX4_noughtsIn_4 : decode cX4_noughtsIn 4 = .ok (.iload_n 2, 1) := by decide +kernel
theorem dX4_noughtsIn_5 : decode cX4_noughtsIn 5 = .ok (.ifCond .le 21, 3) := by decide +kernel
theorem dX4_noughtsIn_8 : decode cX4_noughtsIn 8 = .ok (.iload_n 2, 1) := by decide +kernel
theorem dX4_noughtsIn_9 : decode cX4_noughtsIn 9 = .ok (.bipush 10, 2) := by decide +kernel
theorem dX4_noughtsIn_11 : decode cX4_noughtsIn 11 = .ok (.irem, 1) := by decide +kernel
theorem dX4_noughtsIn_12 : decode cX4_noughtsIn 12 = .ok (.ifCond .ne 6, 3) := by decide +kernel
theorem dX4_noughtsIn_15 : decode cX4_noughtsIn 15 = .ok (.iinc 1 1, 3) := by decide +kernel
theorem dX4_noughtsIn_18 : decode cX4_noughtsIn 18 = .ok (.iload_n 2, 1) := by decide +kernel
theorem dX4_noughtsIn_19 : decode cX4_noughtsIn 19 = .ok (.bipush 10, 2) := by decide +kernel
theorem dX4_noughtsIn_21 : decode cX4_noughtsIn 21 = .ok (.idiv, 1) := by decide +kernel
theorem dX4_noughtsIn_22 : decode cX4_noughtsIn 22 = .ok (.istore_n 2, 1) := by decide +kernel
theorem dX4_noughtsIn_23 : decode cX4_noughtsIn 23 = .ok (.goto (-19), 3) := by decide +kernel
theorem dX4_noughtsIn_26 : decode cX4_noughtsIn 26 = .ok (.iload_n 1, 1) := by decide +kernel
theorem dX4_noughtsIn_27 : decode cX4_noughtsIn 27 = .ok (.ireturn, 1) := by decide +kernel
theorem dX4_isDigit_0 : decode cX4_isDigit 0 = .ok (.iload_n 0, 1) := by decide +kernel
theorem dX4_isDigit_1 : decode cX4_isDigit 1 = .ok (.bipush 48, 2) := by decide +kernel
theorem dX4_isDigit_3 : decode cX4_isDigit 3 = .ok (.if_icmp .lt 13, 3) := by decide +kernel
theorem dX4_isDigit_6 : decode cX4_isDigit 6 = .ok (.iload_n 0, 1) := by decide +kernel
theorem dX4_isDigit_7 : decode cX4_isDigit 7 = .ok (.bipush 57, 2) := by decide +kernel
theorem dX4_isDigit_9 : decode cX4_isDigit 9 = .ok (.if_icmp .gt 7, 3) := by decide +kernel
theorem dX4_isDigit_12 : decode cX4_isDigit 12 = .ok (.iconst 1, 1) := by decide +kernel
theorem dX4_isDigit_13 : decode cX4_isDigit 13 = .ok (.goto 4, 3) := by decide +kernel
theorem dX4_isDigit_16 : decode cX4_isDigit 16 = .ok (.iconst 0, 1) := by decide +kernel
theorem dX4_isDigit_17 : decode cX4_isDigit 17 = .ok (.ireturn, 1) := by decide +kernel
theorem dX5_init_0 : decode cX5_init 0 = .ok (.aload_n 0, 1) := by decide +kernel
theorem dX5_init_1 : decode cX5_init 1 = .ok (.invokespecial 3, 3) := by decide +kernel
theorem dX5_init_4 : decode cX5_init 4 = .ok (.aload_n 0, 1) := by decide +kernel
theorem dX5_init_5 : decode cX5_init 5 = .ok (.iconst 5, 1) := by decide +kernel
theorem dX5_init_6 : decode cX5_init 6 = .ok (.newarray .int, 2) := by decide +kernel
theorem dX5_init_8 : decode cX5_init 8 = .ok (.putfield 11, 3) := by decide +kernel
theorem dX5_init_11 : decode cX5_init 11 = .ok (.aload_n 0, 1) := by decide +kernel
theorem dX5_init_12 : decode cX5_init 12 = .ok (.bipush 60, 2) := by decide +kernel
theorem dX5_init_14 : decode cX5_init 14 = .ok (.newarray .int, 2) := by decide +kernel
theorem dX5_init_16 : decode cX5_init 16 = .ok (.putfield 15, 3) := by decide +kernel
theorem dX5_init_19 : decode cX5_init 19 = .ok (.aload_n 0, 1) := by decide +kernel
theorem dX5_init_20 : decode cX5_init 20 = .ok (.bipush 60, 2) := by decide +kernel
theorem dX5_init_22 : decode cX5_init 22 = .ok (.newarray .int, 2) := by decide +kernel
theorem dX5_init_24 : decode cX5_init 24 = .ok (.putfield 18, 3) := by decide +kernel
theorem dX5_init_27 : decode cX5_init 27 = .ok (.return_, 1) := by decide +kernel
theorem dX5_mayBe_0 : decode cX5_mayBe 0 = .ok (.iload_n 0, 1) := by decide +kernel
theorem dX5_mayBe_1 : decode cX5_mayBe 1 = .ok (.ifCond .lt 30, 3) := by decide +kernel
theorem dX5_mayBe_4 : decode cX5_mayBe 4 = .ok (.iload_n 0, 1) := by decide +kernel
theorem dX5_mayBe_5 : decode cX5_mayBe 5 = .ok (.iconst 5, 1) := by decide +kernel
theorem dX5_mayBe_6 : decode cX5_mayBe 6 = .ok (.if_icmp .ge 25, 3) := by decide +kernel
theorem dX5_mayBe_9 : decode cX5_mayBe 9 = .ok (.iload_n 1, 1) := by decide +kernel
theorem dX5_mayBe_10 : decode cX5_mayBe 10 = .ok (.getstatic 21, 3) := by decide +kernel
theorem dX5_mayBe_13 : decode cX5_mayBe 13 = .ok (.iload_n 0, 1) := by decide +kernel
theorem dX5_mayBe_14 : decode cX5_mayBe 14 = .ok (.iaload, 1) := by decide +kernel
theorem dX5_mayBe_15 : decode cX5_mayBe 15 = .ok (.if_icmp .lt 16, 3) := by decide +kernel
theorem dX5_mayBe_18 : decode cX5_mayBe 18 = .ok (.iload_n 1, 1) := by decide +kernel
theorem dX5_mayBe_19 : decode cX5_mayBe 19 = .ok (.getstatic 24, 3) := by decide +kernel
theorem dX5_mayBe_22 : decode cX5_mayBe 22 = .ok (.iload_n 0, 1) := by decide +kernel
theorem dX5_mayBe_23 : decode cX5_mayBe 23 = .ok (.iaload, 1) := by decide +kernel
theorem dX5_mayBe_24 : decode cX5_mayBe 24 = .ok (.if_icmp .gt 7, 3) := by decide +kernel
theorem dX5_mayBe_27 : decode cX5_mayBe 27 = .ok (.iconst 1, 1) := by decide +kernel
theorem dX5_mayBe_28 : decode cX5_mayBe 28 = .ok (.goto 4, 3) := by decide +kernel
theorem dX5_mayBe_31 : decode cX5_mayBe 31 = .ok (.iconst 0, 1) := by decide +kernel
theorem dX5_mayBe_32 : decode cX5_mayBe 32 = .ok (.ireturn, 1) := by decide +kernel
theorem dX5_read_0 : decode cX5_read 0 = .ok (.aload_n 0, 1) := by decide +kernel
theorem dX5_read_1 : decode cX5_read 1 = .ok (.iconst 0, 1) := by decide +kernel
theorem dX5_read_2 : decode cX5_read 2 = .ok (.putfield 27, 3) := by decide +kernel
theorem dX5_read_5 : decode cX5_read 5 = .ok (.iconst 0, 1) := by decide +kernel
theorem dX5_read_6 : decode cX5_read 6 = .ok (.istore_n 2, 1) := by decide +kernel
theorem dX5_read_7 : decode cX5_read 7 = .ok (.iconst 0, 1) := by decide +kernel
theorem dX5_read_8 : decode cX5_read 8 = .ok (.istore_n 3, 1) := by decide +kernel
theorem dX5_read_9 : decode cX5_read 9 = .ok (.iload_n 3, 1) := by decide +kernel
theorem dX5_read_10 : decode cX5_read 10 = .ok (.iconst 5, 1) := by decide +kernel
theorem dX5_read_11 : decode cX5_read 11 = .ok (.if_icmp .ge 72, 3) := by decide +kernel
theorem dX5_read_14 : decode cX5_read 14 = .ok (.aload_n 1, 1) := by decide +kernel
theorem dX5_read_15 : decode cX5_read 15 = .ok (.iload_n 2, 1) := by decide +kernel
theorem dX5_read_16 : decode cX5_read 16 = .ok (.invokevirtual 31, 3) := by decide +kernel
theorem dX5_read_19 : decode cX5_read 19 = .ok (.getstatic 37, 3) := by decide +kernel
theorem dX5_read_22 : decode cX5_read 22 = .ok (.iload_n 3, 1) := by decide +kernel
theorem dX5_read_23 : decode cX5_read 23 = .ok (.iaload, 1) := by decide +kernel
theorem dX5_read_24 : decode cX5_read 24 = .ok (.if_icmp .eq 5, 3) := by decide +kernel
theorem dX5_read_27 : decode cX5_read 27 = .ok (.iload_n 2, 1) := by decide +kernel
theorem dX5_read_28 : decode cX5_read 28 = .ok (.ireturn, 1) := by decide +kernel
theorem dX5_read_29 : decode cX5_read 29 = .ok (.iinc 2 1, 3) := by decide +kernel
theorem dX5_read_32 : decode cX5_read 32 = .ok (.aload_n 1, 1) := by decide +kernel
theorem dX5_read_33 : decode cX5_read 33 = .ok (.iload_n 2, 1) := by decide +kernel
theorem dX5_read_34 : decode cX5_read 34 = .ok (.invokestatic 40, 3) := by decide +kernel
theorem dX5_read_37 : decode cX5_read 37 = .ok (.istore 4, 2) := by decide +kernel
theorem dX5_read_39 : decode cX5_read 39 = .ok (.aload_n 1, 1) := by decide +kernel
theorem dX5_read_40 : decode cX5_read 40 = .ok (.iload_n 2, 1) := by decide +kernel
theorem dX5_read_41 : decode cX5_read 41 = .ok (.iload 4, 2) := by decide +kernel
theorem dX5_read_43 : decode cX5_read 43 = .ok (.invokestatic 44, 3) := by decide +kernel
theorem dX5_read_46 : decode cX5_read 46 = .ok (.istore 5, 2) := by decide +kernel
theorem dX5_read_48 : decode cX5_read 48 = .ok (.iload 4, 2) := by decide +kernel
theorem dX5_read_50 : decode cX5_read 50 = .ok (.ifCond .eq 12, 3) := by decide +kernel
theorem dX5_read_53 : decode cX5_read 53 = .ok (.iload_n 3, 1) := by decide +kernel
theorem dX5_read_54 : decode cX5_read 54 = .ok (.iload 5, 2) := by decide +kernel
theorem dX5_read_56 : decode cX5_read 56 = .ok (.invokestatic 48, 3) := by decide +kernel
theorem dX5_read_59 : decode cX5_read 59 = .ok (.ifCond .ne 5, 3) := by decide +kernel
theorem dX5_read_62 : decode cX5_read 62 = .ok (.iload_n 2, 1) := by decide +kernel
theorem dX5_read_63 : decode cX5_read 63 = .ok (.ireturn, 1) := by decide +kernel
theorem dX5_read_64 : decode cX5_read 64 = .ok (.aload_n 0, 1) := by decide +kernel
theorem dX5_read_65 : decode cX5_read 65 = .ok (.getfield 11, 3) := by decide +kernel
theorem dX5_read_68 : decode cX5_read 68 = .ok (.iload_n 3, 1) := by decide +kernel
theorem dX5_read_69 : decode cX5_read 69 = .ok (.iload 5, 2) := by decide +kernel
theorem dX5_read_71 : decode cX5_read 71 = .ok (.iastore, 1) := by decide +kernel
theorem dX5_read_72 : decode cX5_read 72 = .ok (.iload_n 2, 1) := by decide +kernel
theorem dX5_read_73 : decode cX5_read 73 = .ok (.iload 4, 2) := by decide +kernel
theorem dX5_read_75 : decode cX5_read 75 = .ok (.iadd, 1) := by decide +kernel
theorem dX5_read_76 : decode cX5_read 76 = .ok (.istore_n 2, 1) := by decide +kernel
theorem dX5_read_77 : decode cX5_read 77 = .ok (.iinc 3 1, 3) := by decide +kernel
theorem dX5_read_80 : decode cX5_read 80 = .ok (.goto (-71), 3) := by decide +kernel
theorem dX5_read_83 : decode cX5_read 83 = .ok (.iload_n 2, 1) := by decide +kernel
theorem dX5_read_84 : decode cX5_read 84 = .ok (.aload_n 1, 1) := by decide +kernel
theorem dX5_read_85 : decode cX5_read 85 = .ok (.invokevirtual 52, 3) := by decide +kernel
theorem dX5_read_88 : decode cX5_read 88 = .ok (.if_icmp .ne 7, 3) := by decide +kernel
theorem dX5_read_91 : decode cX5_read 91 = .ok (.iconst (-1), 1) := by decide +kernel
theorem dX5_read_92 : decode cX5_read 92 = .ok (.goto 4, 3) := by decide +kernel
theorem dX5_read_95 : decode cX5_read 95 = .ok (.iload_n 2, 1) := by decide +kernel
theorem dX5_read_96 : decode cX5_read 96 = .ok (.ireturn, 1) := by decide +kernel
theorem dX5_digitsAt_0 : decode cX5_digitsAt 0 = .ok (.iconst 0, 1) := by decide +kernel
theorem dX5_digitsAt_1 : decode cX5_digitsAt 1 = .ok (.istore_n 2, 1) := by decide +kernel
theorem dX5_digitsAt_2 : decode cX5_digitsAt 2 = .ok (.iload_n 2, 1) := by decide +kernel
theorem dX5_digitsAt_3 : decode cX5_digitsAt 3 = .ok (.iconst 2, 1) := by decide +kernel
theorem dX5_digitsAt_4 : decode cX5_digitsAt 4 = .ok (.if_icmp .ge 22, 3) := by decide +kernel
theorem dX5_digitsAt_7 : decode cX5_digitsAt 7 = .ok (.aload_n 0, 1) := by decide +kernel
theorem dX5_digitsAt_8 : decode cX5_digitsAt 8 = .ok (.iload_n 1, 1) := by decide +kernel
theorem dX5_digitsAt_9 : decode cX5_digitsAt 9 = .ok (.iload_n 2, 1) := by decide +kernel
theorem dX5_digitsAt_10 : decode cX5_digitsAt 10 = .ok (.iadd, 1) := by decide +kernel
theorem dX5_digitsAt_11 : decode cX5_digitsAt 11 = .ok (.invokevirtual 31, 3) := by decide +kernel
theorem dX5_digitsAt_14 : decode cX5_digitsAt 14 = .ok (.invokestatic 56, 3) := by decide +kernel
theorem dX5_digitsAt_17 : decode cX5_digitsAt 17 = .ok (.ifCond .eq 9, 3) := by decide +kernel
theorem dX5_digitsAt_20 : decode cX5_digitsAt 20 = .ok (.iinc 2 1, 3) := by decide +kernel
theorem dX5_digitsAt_23 : decode cX5_digitsAt 23 = .ok (.goto (-21), 3) := by decide +kernel
theorem dX5_digitsAt_26 : decode cX5_digitsAt 26 = .ok (.iload_n 2, 1) := by decide +kernel
theorem dX5_digitsAt_27 : decode cX5_digitsAt 27 = .ok (.ireturn, 1) := by decide +kernel
theorem dX5_valueAt_0 : decode cX5_valueAt 0 = .ok (.iconst 0, 1) := by decide +kernel
theorem dX5_valueAt_1 : decode cX5_valueAt 1 = .ok (.istore_n 3, 1) := by decide +kernel
theorem dX5_valueAt_2 : decode cX5_valueAt 2 = .ok (.iconst 0, 1) := by decide +kernel
theorem dX5_valueAt_3 : decode cX5_valueAt 3 = .ok (.istore 4, 2) := by decide +kernel
theorem dX5_valueAt_5 : decode cX5_valueAt 5 = .ok (.iload 4, 2) := by decide +kernel
theorem dX5_valueAt_7 : decode cX5_valueAt 7 = .ok (.iload_n 2, 1) := by decide +kernel
theorem dX5_valueAt_8 : decode cX5_valueAt 8 = .ok (.if_icmp .ge 26, 3) := by decide +kernel
theorem dX5_valueAt_11 : decode cX5_valueAt 11 = .ok (.iload_n 3, 1) := by decide +kernel
theorem dX5_valueAt_12 : decode cX5_valueAt 12 = .ok (.bipush 10, 2) := by decide +kernel
theorem dX5_valueAt_14 : decode cX5_valueAt 14 = .ok (.imul, 1) := by decide +kernel
theorem dX5_valueAt_15 : decode cX5_valueAt 15 = .ok (.aload_n 0, 1) := by decide +kernel
theorem dX5_valueAt_16 : decode cX5_valueAt 16 = .ok (.iload_n 1, 1) := by decide +kernel
theorem dX5_valueAt_17 : decode cX5_valueAt 17 = .ok (.iload 4, 2) := by decide +kernel
theorem dX5_valueAt_19 : decode cX5_valueAt 19 = .ok (.iadd, 1) := by decide +kernel
theorem dX5_valueAt_20 : decode cX5_valueAt 20 = .ok (.invokevirtual 31, 3) := by decide +kernel
theorem dX5_valueAt_23 : decode cX5_valueAt 23 = .ok (.iadd, 1) := by decide +kernel
theorem dX5_valueAt_24 : decode cX5_valueAt 24 = .ok (.bipush 48, 2) := by decide +kernel
theorem dX5_valueAt_26 : decode cX5_valueAt 26 = .ok (.isub, 1) := by decide +kernel
theorem dX5_valueAt_27 : decode cX5_valueAt 27 = .ok (.istore_n 3, 1) := by decide +kernel
theorem dX5_valueAt_28 : decode cX5_valueAt 28 = .ok (.iinc 4 1, 3) := by decide +kernel
theorem dX5_valueAt_31 : decode cX5_valueAt 31 = .ok (.goto (-26), 3) := by decide +kernel
theorem dX5_valueAt_34 : decode cX5_valueAt 34 = .ok (.iload_n 3, 1) := by decide +kernel
theorem dX5_valueAt_35 : decode cX5_valueAt 35 = .ok (.ireturn, 1) := by decide +kernel
theorem dX5_become_0 : decode cX5_become 0 = .ok (.aload_n 1, 1) := by decide +kernel
theorem dX5_become_1 : decode cX5_become 1 = .ok (.getfield 11, 3) := by decide +kernel
theorem dX5_become_4 : decode cX5_become 4 = .ok (.iconst 0, 1) := by decide +kernel
theorem dX5_become_5 : decode cX5_become 5 = .ok (.aload_n 0, 1) := by decide +kernel
theorem dX5_become_6 : decode cX5_become 6 = .ok (.getfield 11, 3) := by decide +kernel
theorem dX5_become_9 : decode cX5_become 9 = .ok (.iconst 0, 1) := by decide +kernel
theorem dX5_become_10 : decode cX5_become 10 = .ok (.iconst 5, 1) := by decide +kernel
theorem dX5_become_11 : decode cX5_become 11 = .ok (.invokestatic 62, 3) := by decide +kernel
theorem dX5_become_14 : decode cX5_become 14 = .ok (.aload_n 1, 1) := by decide +kernel
theorem dX5_become_15 : decode cX5_become 15 = .ok (.getfield 15, 3) := by decide +kernel
theorem dX5_become_18 : decode cX5_become 18 = .ok (.iconst 0, 1) := by decide +kernel
theorem dX5_become_19 : decode cX5_become 19 = .ok (.aload_n 0, 1) := by decide +kernel
theorem dX5_become_20 : decode cX5_become 20 = .ok (.getfield 15, 3) := by decide +kernel
theorem dX5_become_23 : decode cX5_become 23 = .ok (.iconst 0, 1) := by decide +kernel
theorem dX5_become_24 : decode cX5_become 24 = .ok (.aload_n 1, 1) := by decide +kernel
theorem dX5_become_25 : decode cX5_become 25 = .ok (.getfield 27, 3) := by decide +kernel
theorem dX5_become_28 : decode cX5_become 28 = .ok (.invokestatic 62, 3) := by decide +kernel
theorem dX5_become_31 : decode cX5_become 31 = .ok (.aload_n 1, 1) := by decide +kernel
theorem dX5_become_32 : decode cX5_become 32 = .ok (.getfield 18, 3) := by decide +kernel
theorem dX5_become_35 : decode cX5_become 35 = .ok (.iconst 0, 1) := by decide +kernel
theorem dX5_become_36 : decode cX5_become 36 = .ok (.aload_n 0, 1) := by decide +kernel
theorem dX5_become_37 : decode cX5_become 37 = .ok (.getfield 18, 3) := by decide +kernel
theorem dX5_become_40 : decode cX5_become 40 = .ok (.iconst 0, 1) := by decide +kernel
theorem dX5_become_41 : decode cX5_become 41 = .ok (.aload_n 1, 1) := by decide +kernel
theorem dX5_become_42 : decode cX5_become 42 = .ok (.getfield 27, 3) := by decide +kernel
theorem dX5_become_45 : decode cX5_become 45 = .ok (.invokestatic 62, 3) := by decide +kernel
theorem dX5_become_48 : decode cX5_become 48 = .ok (.aload_n 0, 1) := by decide +kernel
theorem dX5_become_49 : decode cX5_become 49 = .ok (.aload_n 1, 1) := by decide +kernel
theorem dX5_become_50 : decode cX5_become 50 = .ok (.getfield 27, 3) := by decide +kernel
theorem dX5_become_53 : decode cX5_become 53 = .ok (.putfield 27, 3) := by decide +kernel
theorem dX5_become_56 : decode cX5_become 56 = .ok (.return_, 1) := by decide +kernel
theorem dX5_number_0 : decode cX5_number 0 = .ok (.iload_n 1, 1) := by decide +kernel
theorem dX5_number_1 : decode cX5_number 1 = .ok (.ifCond .lt 17, 3) := by decide +kernel
theorem dX5_number_4 : decode cX5_number 4 = .ok (.iload_n 1, 1) := by decide +kernel
theorem dX5_number_5 : decode cX5_number 5 = .ok (.iconst 5, 1) := by decide +kernel
theorem dX5_number_6 : decode cX5_number 6 = .ok (.if_icmp .ge 12, 3) := by decide +kernel
theorem dX5_number_9 : decode cX5_number 9 = .ok (.aload_n 0, 1) := by decide +kernel
theorem dX5_number_10 : decode cX5_number 10 = .ok (.getfield 11, 3) := by decide +kernel
theorem dX5_number_13 : decode cX5_number 13 = .ok (.iload_n 1, 1) := by decide +kernel
theorem dX5_number_14 : decode cX5_number 14 = .ok (.iaload, 1) := by decide +kernel
theorem dX5_number_15 : decode cX5_number 15 = .ok (.goto 4, 3) := by decide +kernel
theorem dX5_number_18 : decode cX5_number 18 = .ok (.iconst 0, 1) := by decide +kernel
theorem dX5_number_19 : decode cX5_number 19 = .ok (.ireturn, 1) := by decide +kernel
theorem dX5_setNumber_0 : decode cX5_setNumber 0 = .ok (.iload_n 1, 1) := by decide +kernel
theorem dX5_setNumber_1 : decode cX5_setNumber 1 = .ok (.ifCond .lt 15, 3) := by decide +kernel
theorem dX5_setNumber_4 : decode cX5_setNumber 4 = .ok (.iload_n 1, 1) := by decide +kernel
theorem dX5_setNumber_5 : decode cX5_setNumber 5 = .ok (.iconst 5, 1) := by decide +kernel
theorem dX5_setNumber_6 : decode cX5_setNumber 6 = .ok (.if_icmp .ge 10, 3) := by decide +kernel
theorem dX5_setNumber_9 : decode cX5_setNumber 9 = .ok (.aload_n 0, 1) := by decide +kernel
theorem dX5_setNumber_10 : decode cX5_setNumber 10 = .ok (.getfield 11, 3) := by decide +kernel
theorem dX5_setNumber_13 : decode cX5_setNumber 13 = .ok (.iload_n 1, 1) := by decide +kernel
theorem dX5_setNumber_14 : decode cX5_setNumber 14 = .ok (.iload_n 2, 1) := by decide +kernel
theorem dX5_setNumber_15 : decode cX5_setNumber 15 = .ok (.iastore, 1) := by decide +kernel
theorem dX5_setNumber_16 : decode cX5_setNumber 16 = .ok (.return_, 1) := by decide +kernel
theorem dX5_capacity_0 : decode cX5_capacity 0 = .ok (.aload_n 0, 1) := by decide +kernel
theorem dX5_capacity_1 : decode cX5_capacity 1 = .ok (.getfield 11, 3) := by decide +kernel
theorem dX5_capacity_4 : decode cX5_capacity 4 = .ok (.iconst 4, 1) := by decide +kernel
theorem dX5_capacity_5 : decode cX5_capacity 5 = .ok (.iaload, 1) := by decide +kernel
theorem dX5_capacity_6 : decode cX5_capacity 6 = .ok (.ireturn, 1) := by decide +kernel
theorem dX5_looksUp_0 : decode cX5_looksUp 0 = .ok (.iload_n 1, 1) := by decide +kernel
theorem dX5_looksUp_1 : decode cX5_looksUp 1 = .ok (.sipush 10000, 3) := by decide +kernel
theorem dX5_looksUp_4 : decode cX5_looksUp 4 = .ok (.idiv, 1) := by decide +kernel
theorem dX5_looksUp_5 : decode cX5_looksUp 5 = .ok (.aload_n 0, 1) := by decide +kernel
theorem dX5_looksUp_6 : decode cX5_looksUp 6 = .ok (.getfield 11, 3) := by decide +kernel
theorem dX5_looksUp_9 : decode cX5_looksUp 9 = .ok (.iconst 3, 1) := by decide +kernel
theorem dX5_looksUp_10 : decode cX5_looksUp 10 = .ok (.iaload, 1) := by decide +kernel
theorem dX5_looksUp_11 : decode cX5_looksUp 11 = .ok (.if_icmp .gt 19, 3) := by decide +kernel
theorem dX5_looksUp_14 : decode cX5_looksUp 14 = .ok (.iload_n 1, 1) := by decide +kernel
theorem dX5_looksUp_15 : decode cX5_looksUp 15 = .ok (.sipush 10000, 3) := by decide +kernel
theorem dX5_looksUp_18 : decode cX5_looksUp 18 = .ok (.irem, 1) := by decide +kernel
theorem dX5_looksUp_19 : decode cX5_looksUp 19 = .ok (.aload_n 0, 1) := by decide +kernel
theorem dX5_looksUp_20 : decode cX5_looksUp 20 = .ok (.getfield 11, 3) := by decide +kernel
theorem dX5_looksUp_23 : decode cX5_looksUp 23 = .ok (.iconst 3, 1) := by decide +kernel
theorem dX5_looksUp_24 : decode cX5_looksUp 24 = .ok (.iaload, 1) := by decide +kernel
theorem dX5_looksUp_25 : decode cX5_looksUp 25 = .ok (.if_icmp .gt 5, 3) := by decide +kernel
theorem dX5_looksUp_28 : decode cX5_looksUp 28 = .ok (.iconst 1, 1) := by decide +kernel
theorem dX5_looksUp_29 : decode cX5_looksUp 29 = .ok (.ireturn, 1) := by decide +kernel
theorem dX5_looksUp_30 : decode cX5_looksUp 30 = .ok (.aload_n 0, 1) := by decide +kernel
theorem dX5_looksUp_31 : decode cX5_looksUp 31 = .ok (.iload_n 1, 1) := by decide +kernel
theorem dX5_looksUp_32 : decode cX5_looksUp 32 = .ok (.invokevirtual 68, 3) := by decide +kernel
theorem dX5_looksUp_35 : decode cX5_looksUp 35 = .ok (.istore_n 2, 1) := by decide +kernel
theorem dX5_looksUp_36 : decode cX5_looksUp 36 = .ok (.iload_n 2, 1) := by decide +kernel
theorem dX5_looksUp_37 : decode cX5_looksUp 37 = .ok (.aload_n 0, 1) := by decide +kernel
theorem dX5_looksUp_38 : decode cX5_looksUp 38 = .ok (.getfield 27, 3) := by decide +kernel
theorem dX5_looksUp_41 : decode cX5_looksUp 41 = .ok (.if_icmp .ge 17, 3) := by decide +kernel
theorem dX5_looksUp_44 : decode cX5_looksUp 44 = .ok (.aload_n 0, 1) := by decide +kernel
theorem dX5_looksUp_45 : decode cX5_looksUp 45 = .ok (.getfield 18, 3) := by decide +kernel
theorem dX5_looksUp_48 : decode cX5_looksUp 48 = .ok (.iload_n 2, 1) := by decide +kernel
theorem dX5_looksUp_49 : decode cX5_looksUp 49 = .ok (.iaload, 1) := by decide +kernel
theorem dX5_looksUp_50 : decode cX5_looksUp 50 = .ok (.iconst 3, 1) := by decide +kernel
theorem dX5_looksUp_51 : decode cX5_looksUp 51 = .ok (.if_icmp .lt 7, 3) := by decide +kernel
theorem dX5_looksUp_54 : decode cX5_looksUp 54 = .ok (.iconst 1, 1) := by decide +kernel
theorem dX5_looksUp_55 : decode cX5_looksUp 55 = .ok (.goto 4, 3) := by decide +kernel
theorem dX5_looksUp_58 : decode cX5_looksUp 58 = .ok (.iconst 0, 1) := by decide +kernel
theorem dX5_looksUp_59 : decode cX5_looksUp 59 = .ok (.ireturn, 1) := by decide +kernel
theorem dX5_learntCount_0 : decode cX5_learntCount 0 = .ok (.iconst 0, 1) := by decide +kernel
theorem dX5_learntCount_1 : decode cX5_learntCount 1 = .ok (.istore_n 1, 1) := by decide +kernel
theorem dX5_learntCount_2 : decode cX5_learntCount 2 = .ok (.iconst 0, 1) := by decide +kernel
theorem dX5_learntCount_3 : decode cX5_learntCount 3 = .ok (.istore_n 2, 1) := by decide +kernel
theorem dX5_learntCount_4 : decode cX5_learntCount 4 = .ok (.iload_n 2, 1) := by decide +kernel
theorem dX5_learntCount_5 : decode cX5_learntCount 5 = .ok (.aload_n 0, 1) := by decide +kernel
theorem dX5_learntCount_6 : decode cX5_learntCount 6 = .ok (.getfield 27, 3) := by decide +kernel
theorem dX5_learntCount_9 : decode cX5_learntCount 9 = .ok (.if_icmp .ge 22, 3) := by decide +kernel
theorem dX5_learntCount_12 : decode cX5_learntCount 12 = .ok (.aload_n 0, 1) := by decide +kernel
theorem dX5_learntCount_13 : decode cX5_learntCount 13 = .ok (.getfield 18, 3) := by decide +kernel
theorem dX5_learntCount_16 : decode cX5_learntCount 16 = .ok (.iload_n 2, 1) := by decide +kernel
theorem dX5_learntCount_17 : decode cX5_learntCount 17 = .ok (.iaload, 1) := by decide +kernel
theorem dX5_learntCount_18 : decode cX5_learntCount 18 = .ok (.iconst 3, 1) := by decide +kernel
theorem dX5_learntCount_19 : decode cX5_learntCount 19 = .ok (.if_icmp .lt 6, 3) := by decide +kernel
theorem dX5_learntCount_22 : decode cX5_learntCount 22 = .ok (.iinc 1 1, 3) := by decide +kernel
theorem dX5_learntCount_25 : decode cX5_learntCount 25 = .ok (.iinc 2 1, 3) := by decide +kernel
theorem dX5_learntCount_28 : decode cX5_learntCount 28 = .ok (.goto (-24), 3) := by decide +kernel
theorem dX5_learntCount_31 : decode cX5_learntCount 31 = .ok (.iload_n 1, 1) := by decide +kernel
theorem dX5_learntCount_32 : decode cX5_learntCount 32 = .ok (.ireturn, 1) := by decide +kernel
theorem dX5_hear_0 : decode cX5_hear 0 = .ok (.aload_n 0, 1) := by decide +kernel
theorem dX5_hear_1 : decode cX5_hear 1 = .ok (.iload_n 1, 1) := by decide +kernel
theorem dX5_hear_2 : decode cX5_hear 2 = .ok (.invokevirtual 68, 3) := by decide +kernel
theorem dX5_hear_5 : decode cX5_hear 5 = .ok (.istore_n 2, 1) := by decide +kernel
theorem dX5_hear_6 : decode cX5_hear 6 = .ok (.iload_n 1, 1) := by decide +kernel
theorem dX5_hear_7 : decode cX5_hear 7 = .ok (.invokestatic 71, 3) := by decide +kernel
theorem dX5_hear_10 : decode cX5_hear 10 = .ok (.ifCond .eq 9, 3) := by decide +kernel
theorem dX5_hear_13 : decode cX5_hear 13 = .ok (.iload_n 2, 1) := by decide +kernel
theorem dX5_hear_14 : decode cX5_hear 14 = .ok (.bipush 60, 2) := by decide +kernel
theorem dX5_hear_16 : decode cX5_hear 16 = .ok (.if_icmp .lt 5, 3) := by decide +kernel
theorem dX5_hear_19 : decode cX5_hear 19 = .ok (.iconst 0, 1) := by decide +kernel
theorem dX5_hear_20 : decode cX5_hear 20 = .ok (.ireturn, 1) := by decide +kernel
theorem dX5_hear_21 : decode cX5_hear 21 = .ok (.iload_n 2, 1) := by decide +kernel
theorem dX5_hear_22 : decode cX5_hear 22 = .ok (.aload_n 0, 1) := by decide +kernel
theorem dX5_hear_23 : decode cX5_hear 23 = .ok (.getfield 27, 3) := by decide +kernel
theorem dX5_hear_26 : decode cX5_hear 26 = .ok (.if_icmp .ne 27, 3) := by decide +kernel
theorem dX5_hear_29 : decode cX5_hear 29 = .ok (.aload_n 0, 1) := by decide +kernel
theorem dX5_hear_30 : decode cX5_hear 30 = .ok (.getfield 15, 3) := by decide +kernel
theorem dX5_hear_33 : decode cX5_hear 33 = .ok (.iload_n 2, 1) := by decide +kernel
theorem dX5_hear_34 : decode cX5_hear 34 = .ok (.iload_n 1, 1) := by decide +kernel
theorem dX5_hear_35 : decode cX5_hear 35 = .ok (.iastore, 1) := by decide +kernel
theorem dX5_hear_36 : decode cX5_hear 36 = .ok (.aload_n 0, 1) := by decide +kernel
theorem dX5_hear_37 : decode cX5_hear 37 = .ok (.getfield 18, 3) := by decide +kernel
theorem dX5_hear_40 : decode cX5_hear 40 = .ok (.iload_n 2, 1) := by decide +kernel
theorem dX5_hear_41 : decode cX5_hear 41 = .ok (.iconst 0, 1) := by decide +kernel
theorem dX5_hear_42 : decode cX5_hear 42 = .ok (.iastore, 1) := by decide +kernel
theorem dX5_hear_43 : decode cX5_hear 43 = .ok (.aload_n 0, 1) := by decide +kernel
theorem dX5_hear_44 : decode cX5_hear 44 = .ok (.dup, 1) := by decide +kernel
theorem dX5_hear_45 : decode cX5_hear 45 = .ok (.getfield 27, 3) := by decide +kernel
theorem dX5_hear_48 : decode cX5_hear 48 = .ok (.iconst 1, 1) := by decide +kernel
theorem dX5_hear_49 : decode cX5_hear 49 = .ok (.iadd, 1) := by decide +kernel
theorem dX5_hear_50 : decode cX5_hear 50 = .ok (.putfield 27, 3) := by decide +kernel
theorem dX5_hear_53 : decode cX5_hear 53 = .ok (.aload_n 0, 1) := by decide +kernel
theorem dX5_hear_54 : decode cX5_hear 54 = .ok (.getfield 18, 3) := by decide +kernel
theorem dX5_hear_57 : decode cX5_hear 57 = .ok (.iload_n 2, 1) := by decide +kernel
theorem dX5_hear_58 : decode cX5_hear 58 = .ok (.dup2, 1) := by decide +kernel
theorem dX5_hear_59 : decode cX5_hear 59 = .ok (.iaload, 1) := by decide +kernel
theorem dX5_hear_60 : decode cX5_hear 60 = .ok (.iconst 1, 1) := by decide +kernel
theorem dX5_hear_61 : decode cX5_hear 61 = .ok (.iadd, 1) := by decide +kernel
theorem dX5_hear_62 : decode cX5_hear 62 = .ok (.iastore, 1) := by decide +kernel
theorem dX5_hear_63 : decode cX5_hear 63 = .ok (.aload_n 0, 1) := by decide +kernel
theorem dX5_hear_64 : decode cX5_hear 64 = .ok (.getfield 18, 3) := by decide +kernel
theorem dX5_hear_67 : decode cX5_hear 67 = .ok (.iload_n 2, 1) := by decide +kernel
theorem dX5_hear_68 : decode cX5_hear 68 = .ok (.iaload, 1) := by decide +kernel
theorem dX5_hear_69 : decode cX5_hear 69 = .ok (.ireturn, 1) := by decide +kernel
theorem dX5_placeOf_0 : decode cX5_placeOf 0 = .ok (.iload_n 1, 1) := by decide +kernel
theorem dX5_placeOf_1 : decode cX5_placeOf 1 = .ok (.sipush 10000, 3) := by decide +kernel
theorem dX5_placeOf_4 : decode cX5_placeOf 4 = .ok (.irem, 1) := by decide +kernel
theorem dX5_placeOf_5 : decode cX5_placeOf 5 = .ok (.sipush 10000, 3) := by decide +kernel
theorem dX5_placeOf_8 : decode cX5_placeOf 8 = .ok (.imul, 1) := by decide +kernel
theorem dX5_placeOf_9 : decode cX5_placeOf 9 = .ok (.iload_n 1, 1) := by decide +kernel
theorem dX5_placeOf_10 : decode cX5_placeOf 10 = .ok (.sipush 10000, 3) := by decide +kernel
theorem dX5_placeOf_13 : decode cX5_placeOf 13 = .ok (.idiv, 1) := by decide +kernel
theorem dX5_placeOf_14 : decode cX5_placeOf 14 = .ok (.iadd, 1) := by decide +kernel
theorem dX5_placeOf_15 : decode cX5_placeOf 15 = .ok (.istore_n 2, 1) := by decide +kernel
theorem dX5_placeOf_16 : decode cX5_placeOf 16 = .ok (.iconst 0, 1) := by decide +kernel
theorem dX5_placeOf_17 : decode cX5_placeOf 17 = .ok (.istore_n 3, 1) := by decide +kernel
theorem dX5_placeOf_18 : decode cX5_placeOf 18 = .ok (.iload_n 3, 1) := by decide +kernel
theorem dX5_placeOf_19 : decode cX5_placeOf 19 = .ok (.aload_n 0, 1) := by decide +kernel
theorem dX5_placeOf_20 : decode cX5_placeOf 20 = .ok (.getfield 27, 3) := by decide +kernel
theorem dX5_placeOf_23 : decode cX5_placeOf 23 = .ok (.if_icmp .ge 31, 3) := by decide +kernel
theorem dX5_placeOf_26 : decode cX5_placeOf 26 = .ok (.aload_n 0, 1) := by decide +kernel
theorem dX5_placeOf_27 : decode cX5_placeOf 27 = .ok (.getfield 15, 3) := by decide +kernel
theorem dX5_placeOf_30 : decode cX5_placeOf 30 = .ok (.iload_n 3, 1) := by decide +kernel
theorem dX5_placeOf_31 : decode cX5_placeOf 31 = .ok (.iaload, 1) := by decide +kernel
theorem dX5_placeOf_32 : decode cX5_placeOf 32 = .ok (.iload_n 1, 1) := by decide +kernel
theorem dX5_placeOf_33 : decode cX5_placeOf 33 = .ok (.if_icmp .eq 13, 3) := by decide +kernel
theorem dX5_placeOf_36 : decode cX5_placeOf 36 = .ok (.aload_n 0, 1) := by decide +kernel
theorem dX5_placeOf_37 : decode cX5_placeOf 37 = .ok (.getfield 15, 3) := by decide +kernel
theorem dX5_placeOf_40 : decode cX5_placeOf 40 = .ok (.iload_n 3, 1) := by decide +kernel
theorem dX5_placeOf_41 : decode cX5_placeOf 41 = .ok (.iaload, 1) := by decide +kernel
theorem dX5_placeOf_42 : decode cX5_placeOf 42 = .ok (.iload_n 2, 1) := by decide +kernel
theorem dX5_placeOf_43 : decode cX5_placeOf 43 = .ok (.if_icmp .ne 5, 3) := by decide +kernel
theorem dX5_placeOf_46 : decode cX5_placeOf 46 = .ok (.iload_n 3, 1) := by decide +kernel
theorem dX5_placeOf_47 : decode cX5_placeOf 47 = .ok (.ireturn, 1) := by decide +kernel
theorem dX5_placeOf_48 : decode cX5_placeOf 48 = .ok (.iinc 3 1, 3) := by decide +kernel
theorem dX5_placeOf_51 : decode cX5_placeOf 51 = .ok (.goto (-33), 3) := by decide +kernel
theorem dX5_placeOf_54 : decode cX5_placeOf 54 = .ok (.aload_n 0, 1) := by decide +kernel
theorem dX5_placeOf_55 : decode cX5_placeOf 55 = .ok (.getfield 27, 3) := by decide +kernel
theorem dX5_placeOf_58 : decode cX5_placeOf 58 = .ok (.ireturn, 1) := by decide +kernel
theorem dX6_isNumber_0 : decode cX6_isNumber 0 = .ok (.lload_n 0, 1) := by decide +kernel
theorem dX6_isNumber_1 : decode cX6_isNumber 1 = .ok (.lconst 1, 1) := by decide +kernel
theorem dX6_isNumber_2 : decode cX6_isNumber 2 = .ok (.lcmp, 1) := by decide +kernel
theorem dX6_isNumber_3 : decode cX6_isNumber 3 = .ok (.ifCond .lt 15, 3) := by decide +kernel
theorem dX6_isNumber_6 : decode cX6_isNumber 6 = .ok (.lload_n 0, 1) := by decide +kernel
theorem dX6_isNumber_7 : decode cX6_isNumber 7 = .ok (.ldc2_w 9, 3) := by decide +kernel
theorem dX6_isNumber_10 : decode cX6_isNumber 10 = .ok (.lcmp, 1) := by decide +kernel
theorem dX6_isNumber_11 : decode cX6_isNumber 11 = .ok (.ifCond .gt 7, 3) := by decide +kernel
theorem dX6_isNumber_14 : decode cX6_isNumber 14 = .ok (.iconst 1, 1) := by decide +kernel
theorem dX6_isNumber_15 : decode cX6_isNumber 15 = .ok (.goto 4, 3) := by decide +kernel
theorem dX6_isNumber_18 : decode cX6_isNumber 18 = .ok (.iconst 0, 1) := by decide +kernel
theorem dX6_isNumber_19 : decode cX6_isNumber 19 = .ok (.ireturn, 1) := by decide +kernel
theorem dX6_isPower_0 : decode cX6_isPower 0 = .ok (.iload_n 0, 1) := by decide +kernel
theorem dX6_isPower_1 : decode cX6_isPower 1 = .ok (.iconst 2, 1) := by decide +kernel
theorem dX6_isPower_2 : decode cX6_isPower 2 = .ok (.if_icmp .eq 13, 3) := by decide +kernel
theorem dX6_isPower_5 : decode cX6_isPower 5 = .ok (.iload_n 0, 1) := by decide +kernel
theorem dX6_isPower_6 : decode cX6_isPower 6 = .ok (.iconst 3, 1) := by decide +kernel
theorem dX6_isPower_7 : decode cX6_isPower 7 = .ok (.if_icmp .eq 8, 3) := by decide +kernel
theorem dX6_isPower_10 : decode cX6_isPower 10 = .ok (.iload_n 0, 1) := by decide +kernel
theorem dX6_isPower_11 : decode cX6_isPower 11 = .ok (.iconst 5, 1) := by decide +kernel
theorem dX6_isPower_12 : decode cX6_isPower 12 = .ok (.if_icmp .ne 7, 3) := by decide +kernel
theorem dX6_isPower_15 : decode cX6_isPower 15 = .ok (.iconst 1, 1) := by decide +kernel
theorem dX6_isPower_16 : decode cX6_isPower 16 = .ok (.goto 4, 3) := by decide +kernel
theorem dX6_isPower_19 : decode cX6_isPower 19 = .ok (.iconst 0, 1) := by decide +kernel
theorem dX6_isPower_20 : decode cX6_isPower 20 = .ok (.ireturn, 1) := by decide +kernel
theorem dX6_mostRoot_0 : decode cX6_mostRoot 0 = .ok (.iload_n 0, 1) := by decide +kernel
theorem dX6_mostRoot_1 : decode cX6_mostRoot 1 = .ok (.iconst 2, 1) := by decide +kernel
theorem dX6_mostRoot_2 : decode cX6_mostRoot 2 = .ok (.if_icmp .ne 7, 3) := by decide +kernel
theorem dX6_mostRoot_5 : decode cX6_mostRoot 5 = .ok (.ldc2_w 11, 3) := by decide +kernel
theorem dX6_mostRoot_8 : decode cX6_mostRoot 8 = .ok (.lreturn, 1) := by decide +kernel
theorem dX6_mostRoot_9 : decode cX6_mostRoot 9 = .ok (.iload_n 0, 1) := by decide +kernel
theorem dX6_mostRoot_10 : decode cX6_mostRoot 10 = .ok (.iconst 3, 1) := by decide +kernel
theorem dX6_mostRoot_11 : decode cX6_mostRoot 11 = .ok (.if_icmp .ne 9, 3) := by decide +kernel
theorem dX6_mostRoot_14 : decode cX6_mostRoot 14 = .ok (.ldc2_w 13, 3) := by decide +kernel
theorem dX6_mostRoot_17 : decode cX6_mostRoot 17 = .ok (.goto 6, 3) := by decide +kernel
theorem dX6_mostRoot_20 : decode cX6_mostRoot 20 = .ok (.ldc2_w 15, 3) := by decide +kernel
theorem dX6_mostRoot_23 : decode cX6_mostRoot 23 = .ok (.lreturn, 1) := by decide +kernel
theorem dX6_raised_0 : decode cX6_raised 0 = .ok (.lconst 1, 1) := by decide +kernel
theorem dX6_raised_1 : decode cX6_raised 1 = .ok (.lstore_n 3, 1) := by decide +kernel
theorem dX6_raised_2 : decode cX6_raised 2 = .ok (.iconst 0, 1) := by decide +kernel
theorem dX6_raised_3 : decode cX6_raised 3 = .ok (.istore 5, 2) := by decide +kernel
theorem dX6_raised_5 : decode cX6_raised 5 = .ok (.iload 5, 2) := by decide +kernel
theorem dX6_raised_7 : decode cX6_raised 7 = .ok (.iload_n 2, 1) := by decide +kernel
theorem dX6_raised_8 : decode cX6_raised 8 = .ok (.if_icmp .ge 13, 3) := by decide +kernel
theorem dX6_raised_11 : decode cX6_raised 11 = .ok (.lload_n 3, 1) := by decide +kernel
theorem dX6_raised_12 : decode cX6_raised 12 = .ok (.lload_n 0, 1) := by decide +kernel
theorem dX6_raised_13 : decode cX6_raised 13 = .ok (.lmul, 1) := by decide +kernel
theorem dX6_raised_14 : decode cX6_raised 14 = .ok (.lstore_n 3, 1) := by decide +kernel
theorem dX6_raised_15 : decode cX6_raised 15 = .ok (.iinc 5 1, 3) := by decide +kernel
theorem dX6_raised_18 : decode cX6_raised 18 = .ok (.goto (-13), 3) := by decide +kernel
theorem dX6_raised_21 : decode cX6_raised 21 = .ok (.lload_n 3, 1) := by decide +kernel
theorem dX6_raised_22 : decode cX6_raised 22 = .ok (.lreturn, 1) := by decide +kernel
theorem dX6_cutRoot_0 : decode cX6_cutRoot 0 = .ok (.lconst 0, 1) := by decide +kernel
theorem dX6_cutRoot_1 : decode cX6_cutRoot 1 = .ok (.lstore_n 3, 1) := by decide +kernel
theorem dX6_cutRoot_2 : decode cX6_cutRoot 2 = .ok (.iload_n 2, 1) := by decide +kernel
theorem dX6_cutRoot_3 : decode cX6_cutRoot 3 = .ok (.invokestatic 17, 3) := by decide +kernel
theorem dX6_cutRoot_6 : decode cX6_cutRoot 6 = .ok (.lstore 5, 2) := by decide +kernel
theorem dX6_cutRoot_8 : decode cX6_cutRoot 8 = .ok (.iconst 0, 1) := by decide +kernel
theorem dX6_cutRoot_9 : decode cX6_cutRoot 9 = .ok (.istore 7, 2) := by decide +kernel
theorem dX6_cutRoot_11 : decode cX6_cutRoot 11 = .ok (.iload 7, 2) := by decide +kernel
theorem dX6_cutRoot_13 : decode cX6_cutRoot 13 = .ok (.bipush 40, 2) := by decide +kernel
theorem dX6_cutRoot_15 : decode cX6_cutRoot 15 = .ok (.if_icmp .ge 51, 3) := by decide +kernel
theorem dX6_cutRoot_18 : decode cX6_cutRoot 18 = .ok (.lload_n 3, 1) := by decide +kernel
theorem dX6_cutRoot_19 : decode cX6_cutRoot 19 = .ok (.lload 5, 2) := by decide +kernel
theorem dX6_cutRoot_21 : decode cX6_cutRoot 21 = .ok (.lcmp, 1) := by decide +kernel
theorem dX6_cutRoot_22 : decode cX6_cutRoot 22 = .ok (.ifCond .ge 44, 3) := by decide +kernel
theorem dX6_cutRoot_25 : decode cX6_cutRoot 25 = .ok (.lload_n 3, 1) := by decide +kernel
theorem dX6_cutRoot_26 : decode cX6_cutRoot 26 = .ok (.lload 5, 2) := by decide +kernel
theorem dX6_cutRoot_28 : decode cX6_cutRoot 28 = .ok (.ladd, 1) := by decide +kernel
theorem dX6_cutRoot_29 : decode cX6_cutRoot 29 = .ok (.lconst 1, 1) := by decide +kernel
theorem dX6_cutRoot_30 : decode cX6_cutRoot 30 = .ok (.ladd, 1) := by decide +kernel
theorem dX6_cutRoot_31 : decode cX6_cutRoot 31 = .ok (.ldc2_w 21, 3) := by decide +kernel
theorem dX6_cutRoot_34 : decode cX6_cutRoot 34 = .ok (.ldiv, 1) := by decide +kernel
theorem dX6_cutRoot_35 : decode cX6_cutRoot 35 = .ok (.lstore 8, 2) := by decide +kernel
theorem dX6_cutRoot_37 : decode cX6_cutRoot 37 = .ok (.lload 8, 2) := by decide +kernel
theorem dX6_cutRoot_39 : decode cX6_cutRoot 39 = .ok (.iload_n 2, 1) := by decide +kernel
theorem dX6_cutRoot_40 : decode cX6_cutRoot 40 = .ok (.invokestatic 23, 3) := by decide +kernel
theorem dX6_cutRoot_43 : decode cX6_cutRoot 43 = .ok (.lload_n 0, 1) := by decide +kernel
theorem dX6_cutRoot_44 : decode cX6_cutRoot 44 = .ok (.lcmp, 1) := by decide +kernel
theorem dX6_cutRoot_45 : decode cX6_cutRoot 45 = .ok (.ifCond .gt 9, 3) := by decide +kernel
theorem dX6_cutRoot_48 : decode cX6_cutRoot 48 = .ok (.lload 8, 2) := by decide +kernel
theorem dX6_cutRoot_50 : decode cX6_cutRoot 50 = .ok (.lstore_n 3, 1) := by decide +kernel
theorem dX6_cutRoot_51 : decode cX6_cutRoot 51 = .ok (.goto 9, 3) := by decide +kernel
theorem dX6_cutRoot_54 : decode cX6_cutRoot 54 = .ok (.lload 8, 2) := by decide +kernel
theorem dX6_cutRoot_56 : decode cX6_cutRoot 56 = .ok (.lconst 1, 1) := by decide +kernel
theorem dX6_cutRoot_57 : decode cX6_cutRoot 57 = .ok (.lsub, 1) := by decide +kernel
theorem dX6_cutRoot_58 : decode cX6_cutRoot 58 = .ok (.lstore 5, 2) := by decide +kernel
theorem dX6_cutRoot_60 : decode cX6_cutRoot 60 = .ok (.iinc 7 1, 3) := by decide +kernel
theorem dX6_cutRoot_63 : decode cX6_cutRoot 63 = .ok (.goto (-52), 3) := by decide +kernel
theorem dX6_cutRoot_66 : decode cX6_cutRoot 66 = .ok (.lload_n 3, 1) := by decide +kernel
theorem dX6_cutRoot_67 : decode cX6_cutRoot 67 = .ok (.lreturn, 1) := by decide +kernel
theorem dX6_whole_0 : decode cX6_whole 0 = .ok (.lload_n 0, 1) := by decide +kernel
theorem dX6_whole_1 : decode cX6_whole 1 = .ok (.iload_n 2, 1) := by decide +kernel
theorem dX6_whole_2 : decode cX6_whole 2 = .ok (.invokestatic 27, 3) := by decide +kernel
theorem dX6_whole_5 : decode cX6_whole 5 = .ok (.lstore_n 3, 1) := by decide +kernel
theorem dX6_whole_6 : decode cX6_whole 6 = .ok (.lload_n 3, 1) := by decide +kernel
theorem dX6_whole_7 : decode cX6_whole 7 = .ok (.iload_n 2, 1) := by decide +kernel
theorem dX6_whole_8 : decode cX6_whole 8 = .ok (.invokestatic 23, 3) := by decide +kernel
theorem dX6_whole_11 : decode cX6_whole 11 = .ok (.lload_n 0, 1) := by decide +kernel
theorem dX6_whole_12 : decode cX6_whole 12 = .ok (.lcmp, 1) := by decide +kernel
theorem dX6_whole_13 : decode cX6_whole 13 = .ok (.ifCond .ne 7, 3) := by decide +kernel
theorem dX6_whole_16 : decode cX6_whole 16 = .ok (.lload_n 3, 1) := by decide +kernel
theorem dX6_whole_17 : decode cX6_whole 17 = .ok (.goto 4, 3) := by decide +kernel
theorem dX6_whole_20 : decode cX6_whole 20 = .ok (.lconst 0, 1) := by decide +kernel
theorem dX6_whole_21 : decode cX6_whole 21 = .ok (.lreturn, 1) := by decide +kernel
theorem dX6_leastWithFirsts_0 : decode cX6_leastWithFirsts 0 = .ok (.lload_n 0, 1) := by decide +kernel
theorem dX6_leastWithFirsts_1 : decode cX6_leastWithFirsts 1 = .ok (.iload_n 2, 1) := by decide +kernel
theorem dX6_leastWithFirsts_2 : decode cX6_leastWithFirsts 2 = .ok (.invokestatic 30, 3) := by decide +kernel
theorem dX6_leastWithFirsts_5 : decode cX6_leastWithFirsts 5 = .ok (.lstore_n 3, 1) := by decide +kernel
theorem dX6_leastWithFirsts_6 : decode cX6_leastWithFirsts 6 = .ok (.lload_n 3, 1) := by decide +kernel
theorem dX6_leastWithFirsts_7 : decode cX6_leastWithFirsts 7 = .ok (.lconst 1, 1) := by decide +kernel
theorem dX6_leastWithFirsts_8 : decode cX6_leastWithFirsts 8 = .ok (.lcmp, 1) := by decide +kernel
theorem dX6_leastWithFirsts_9 : decode cX6_leastWithFirsts 9 = .ok (.ifCond .ge 7, 3) := by decide +kernel
theorem dX6_leastWithFirsts_12 : decode cX6_leastWithFirsts 12 = .ok (.lload_n 0, 1) := by decide +kernel
theorem dX6_leastWithFirsts_13 : decode cX6_leastWithFirsts 13 = .ok (.goto 8, 3) := by decide +kernel
theorem dX6_leastWithFirsts_16 : decode cX6_leastWithFirsts 16 = .ok (.lload_n 0, 1) := by decide +kernel
theorem dX6_leastWithFirsts_17 : decode cX6_leastWithFirsts 17 = .ok (.lload_n 3, 1) := by decide +kernel
theorem dX6_leastWithFirsts_18 : decode cX6_leastWithFirsts 18 = .ok (.ldiv, 1) := by decide +kernel
theorem dX6_leastWithFirsts_19 : decode cX6_leastWithFirsts 19 = .ok (.lload_n 3, 1) := by decide +kernel
theorem dX6_leastWithFirsts_20 : decode cX6_leastWithFirsts 20 = .ok (.lmul, 1) := by decide +kernel
theorem dX6_leastWithFirsts_21 : decode cX6_leastWithFirsts 21 = .ok (.lreturn, 1) := by decide +kernel
theorem dX6_unitOf_0 : decode cX6_unitOf 0 = .ok (.lload_n 0, 1) := by decide +kernel
theorem dX6_unitOf_1 : decode cX6_unitOf 1 = .ok (.invokestatic 33, 3) := by decide +kernel
theorem dX6_unitOf_4 : decode cX6_unitOf 4 = .ok (.iload_n 2, 1) := by decide +kernel
theorem dX6_unitOf_5 : decode cX6_unitOf 5 = .ok (.isub, 1) := by decide +kernel
theorem dX6_unitOf_6 : decode cX6_unitOf 6 = .ok (.invokestatic 39, 3) := by decide +kernel
theorem dX6_unitOf_9 : decode cX6_unitOf 9 = .ok (.lreturn, 1) := by decide +kernel
theorem dX6_fromRoot_0 : decode cX6_fromRoot 0 = .ok (.lload_n 0, 1) := by decide +kernel
theorem dX6_fromRoot_1 : decode cX6_fromRoot 1 = .ok (.iload_n 3, 1) := by decide +kernel
theorem dX6_fromRoot_2 : decode cX6_fromRoot 2 = .ok (.invokestatic 42, 3) := by decide +kernel
theorem dX6_fromRoot_5 : decode cX6_fromRoot 5 = .ok (.lconst 1, 1) := by decide +kernel
theorem dX6_fromRoot_6 : decode cX6_fromRoot 6 = .ok (.lsub, 1) := by decide +kernel
theorem dX6_fromRoot_7 : decode cX6_fromRoot 7 = .ok (.iload_n 2, 1) := by decide +kernel
theorem dX6_fromRoot_8 : decode cX6_fromRoot 8 = .ok (.invokestatic 27, 3) := by decide +kernel
theorem dX6_fromRoot_11 : decode cX6_fromRoot 11 = .ok (.lconst 1, 1) := by decide +kernel
theorem dX6_fromRoot_12 : decode cX6_fromRoot 12 = .ok (.ladd, 1) := by decide +kernel
theorem dX6_fromRoot_13 : decode cX6_fromRoot 13 = .ok (.lreturn, 1) := by decide +kernel
theorem dX6_toRoot_0 : decode cX6_toRoot 0 = .ok (.lload_n 0, 1) := by decide +kernel
theorem dX6_toRoot_1 : decode cX6_toRoot 1 = .ok (.iload_n 3, 1) := by decide +kernel
theorem dX6_toRoot_2 : decode cX6_toRoot 2 = .ok (.invokestatic 42, 3) := by decide +kernel
theorem dX6_toRoot_5 : decode cX6_toRoot 5 = .ok (.lload_n 0, 1) := by decide +kernel
theorem dX6_toRoot_6 : decode cX6_toRoot 6 = .ok (.iload_n 3, 1) := by decide +kernel
theorem dX6_toRoot_7 : decode cX6_toRoot 7 = .ok (.invokestatic 30, 3) := by decide +kernel
theorem dX6_toRoot_10 : decode cX6_toRoot 10 = .ok (.ladd, 1) := by decide +kernel
theorem dX6_toRoot_11 : decode cX6_toRoot 11 = .ok (.lconst 1, 1) := by decide +kernel
theorem dX6_toRoot_12 : decode cX6_toRoot 12 = .ok (.lsub, 1) := by decide +kernel
theorem dX6_toRoot_13 : decode cX6_toRoot 13 = .ok (.iload_n 2, 1) := by decide +kernel
theorem dX6_toRoot_14 : decode cX6_toRoot 14 = .ok (.invokestatic 27, 3) := by decide +kernel
theorem dX6_toRoot_17 : decode cX6_toRoot 17 = .ok (.lreturn, 1) := by decide +kernel
theorem dX6_endsAlike_0 : decode cX6_endsAlike 0 = .ok (.lload_n 0, 1) := by decide +kernel
theorem dX6_endsAlike_1 : decode cX6_endsAlike 1 = .ok (.ldc2_w 45, 3) := by decide +kernel
theorem dX6_endsAlike_4 : decode cX6_endsAlike 4 = .ok (.lrem, 1) := by decide +kernel
theorem dX6_endsAlike_5 : decode cX6_endsAlike 5 = .ok (.iload_n 2, 1) := by decide +kernel
theorem dX6_endsAlike_6 : decode cX6_endsAlike 6 = .ok (.invokestatic 23, 3) := by decide +kernel
theorem dX6_endsAlike_9 : decode cX6_endsAlike 9 = .ok (.ldc2_w 45, 3) := by decide +kernel
theorem dX6_endsAlike_12 : decode cX6_endsAlike 12 = .ok (.lrem, 1) := by decide +kernel
theorem dX6_endsAlike_13 : decode cX6_endsAlike 13 = .ok (.lload_n 3, 1) := by decide +kernel
theorem dX6_endsAlike_14 : decode cX6_endsAlike 14 = .ok (.ldc2_w 45, 3) := by decide +kernel
theorem dX6_endsAlike_17 : decode cX6_endsAlike 17 = .ok (.lrem, 1) := by decide +kernel
theorem dX6_endsAlike_18 : decode cX6_endsAlike 18 = .ok (.lcmp, 1) := by decide +kernel
theorem dX6_endsAlike_19 : decode cX6_endsAlike 19 = .ok (.ifCond .ne 7, 3) := by decide +kernel
theorem dX6_endsAlike_22 : decode cX6_endsAlike 22 = .ok (.iconst 1, 1) := by decide +kernel
theorem dX6_endsAlike_23 : decode cX6_endsAlike 23 = .ok (.goto 4, 3) := by decide +kernel
theorem dX6_endsAlike_26 : decode cX6_endsAlike 26 = .ok (.iconst 0, 1) := by decide +kernel
theorem dX6_endsAlike_27 : decode cX6_endsAlike 27 = .ok (.ireturn, 1) := by decide +kernel
theorem dX6_howMany_0 : decode cX6_howMany 0 = .ok (.lload_n 0, 1) := by decide +kernel
theorem dX6_howMany_1 : decode cX6_howMany 1 = .ok (.iload_n 2, 1) := by decide +kernel
theorem dX6_howMany_2 : decode cX6_howMany 2 = .ok (.iload_n 3, 1) := by decide +kernel
theorem dX6_howMany_3 : decode cX6_howMany 3 = .ok (.invokestatic 47, 3) := by decide +kernel
theorem dX6_howMany_6 : decode cX6_howMany 6 = .ok (.lstore 4, 2) := by decide +kernel
theorem dX6_howMany_8 : decode cX6_howMany 8 = .ok (.lload_n 0, 1) := by decide +kernel
theorem dX6_howMany_9 : decode cX6_howMany 9 = .ok (.iload_n 2, 1) := by decide +kernel
theorem dX6_howMany_10 : decode cX6_howMany 10 = .ok (.iload_n 3, 1) := by decide +kernel
theorem dX6_howMany_11 : decode cX6_howMany 11 = .ok (.invokestatic 51, 3) := by decide +kernel
theorem dX6_howMany_14 : decode cX6_howMany 14 = .ok (.lstore 6, 2) := by decide +kernel
theorem dX6_howMany_16 : decode cX6_howMany 16 = .ok (.lconst 0, 1) := by decide +kernel
theorem dX6_howMany_17 : decode cX6_howMany 17 = .ok (.lstore 8, 2) := by decide +kernel
theorem dX6_howMany_19 : decode cX6_howMany 19 = .ok (.lload 4, 2) := by decide +kernel
theorem dX6_howMany_21 : decode cX6_howMany 21 = .ok (.lstore 10, 2) := by decide +kernel
theorem dX6_howMany_23 : decode cX6_howMany 23 = .ok (.lload 10, 2) := by decide +kernel
theorem dX6_howMany_25 : decode cX6_howMany 25 = .ok (.lload 4, 2) := by decide +kernel
theorem dX6_howMany_27 : decode cX6_howMany 27 = .ok (.ldc2_w 45, 3) := by decide +kernel
theorem dX6_howMany_30 : decode cX6_howMany 30 = .ok (.ladd, 1) := by decide +kernel
theorem dX6_howMany_31 : decode cX6_howMany 31 = .ok (.lcmp, 1) := by decide +kernel
theorem dX6_howMany_32 : decode cX6_howMany 32 = .ok (.ifCond .ge 46, 3) := by decide +kernel
theorem dX6_howMany_35 : decode cX6_howMany 35 = .ok (.lload 10, 2) := by decide +kernel
theorem dX6_howMany_37 : decode cX6_howMany 37 = .ok (.lload 6, 2) := by decide +kernel
theorem dX6_howMany_39 : decode cX6_howMany 39 = .ok (.lcmp, 1) := by decide +kernel
theorem dX6_howMany_40 : decode cX6_howMany 40 = .ok (.ifCond .gt 38, 3) := by decide +kernel
theorem dX6_howMany_43 : decode cX6_howMany 43 = .ok (.lload 10, 2) := by decide +kernel
theorem dX6_howMany_45 : decode cX6_howMany 45 = .ok (.iload_n 2, 1) := by decide +kernel
theorem dX6_howMany_46 : decode cX6_howMany 46 = .ok (.lload_n 0, 1) := by decide +kernel
theorem dX6_howMany_47 : decode cX6_howMany 47 = .ok (.invokestatic 54, 3) := by decide +kernel
theorem dX6_howMany_50 : decode cX6_howMany 50 = .ok (.ifCond .eq 19, 3) := by decide +kernel
theorem dX6_howMany_53 : decode cX6_howMany 53 = .ok (.lload 8, 2) := by decide +kernel
theorem dX6_howMany_55 : decode cX6_howMany 55 = .ok (.lload 6, 2) := by decide +kernel
theorem dX6_howMany_57 : decode cX6_howMany 57 = .ok (.lload 10, 2) := by decide +kernel
theorem dX6_howMany_59 : decode cX6_howMany 59 = .ok (.lsub, 1) := by decide +kernel
theorem dX6_howMany_60 : decode cX6_howMany 60 = .ok (.ldc2_w 45, 3) := by decide +kernel
theorem dX6_howMany_63 : decode cX6_howMany 63 = .ok (.ldiv, 1) := by decide +kernel
theorem dX6_howMany_64 : decode cX6_howMany 64 = .ok (.lconst 1, 1) := by decide +kernel
theorem dX6_howMany_65 : decode cX6_howMany 65 = .ok (.ladd, 1) := by decide +kernel
theorem dX6_howMany_66 : decode cX6_howMany 66 = .ok (.ladd, 1) := by decide +kernel
theorem dX6_howMany_67 : decode cX6_howMany 67 = .ok (.lstore 8, 2) := by decide +kernel
theorem dX6_howMany_69 : decode cX6_howMany 69 = .ok (.lload 10, 2) := by decide +kernel
theorem dX6_howMany_71 : decode cX6_howMany 71 = .ok (.lconst 1, 1) := by decide +kernel
theorem dX6_howMany_72 : decode cX6_howMany 72 = .ok (.ladd, 1) := by decide +kernel
theorem dX6_howMany_73 : decode cX6_howMany 73 = .ok (.lstore 10, 2) := by decide +kernel
theorem dX6_howMany_75 : decode cX6_howMany 75 = .ok (.goto (-52), 3) := by decide +kernel
theorem dX6_howMany_78 : decode cX6_howMany 78 = .ok (.lload 8, 2) := by decide +kernel
theorem dX6_howMany_80 : decode cX6_howMany 80 = .ok (.lreturn, 1) := by decide +kernel
theorem dX6_least_0 : decode cX6_least 0 = .ok (.lload_n 0, 1) := by decide +kernel
theorem dX6_least_1 : decode cX6_least 1 = .ok (.iload_n 2, 1) := by decide +kernel
theorem dX6_least_2 : decode cX6_least 2 = .ok (.iload_n 3, 1) := by decide +kernel
theorem dX6_least_3 : decode cX6_least 3 = .ok (.invokestatic 47, 3) := by decide +kernel
theorem dX6_least_6 : decode cX6_least 6 = .ok (.lstore 4, 2) := by decide +kernel
theorem dX6_least_8 : decode cX6_least 8 = .ok (.lload_n 0, 1) := by decide +kernel
theorem dX6_least_9 : decode cX6_least 9 = .ok (.iload_n 2, 1) := by decide +kernel
theorem dX6_least_10 : decode cX6_least 10 = .ok (.iload_n 3, 1) := by decide +kernel
theorem dX6_least_11 : decode cX6_least 11 = .ok (.invokestatic 51, 3) := by decide +kernel
theorem dX6_least_14 : decode cX6_least 14 = .ok (.lstore 6, 2) := by decide +kernel
theorem dX6_least_16 : decode cX6_least 16 = .ok (.lload 4, 2) := by decide +kernel
theorem dX6_least_18 : decode cX6_least 18 = .ok (.lstore 8, 2) := by decide +kernel
theorem dX6_least_20 : decode cX6_least 20 = .ok (.lload 8, 2) := by decide +kernel
theorem dX6_least_22 : decode cX6_least 22 = .ok (.lload 4, 2) := by decide +kernel
theorem dX6_least_24 : decode cX6_least 24 = .ok (.ldc2_w 45, 3) := by decide +kernel
theorem dX6_least_27 : decode cX6_least 27 = .ok (.ladd, 1) := by decide +kernel
theorem dX6_least_28 : decode cX6_least 28 = .ok (.lcmp, 1) := by decide +kernel
theorem dX6_least_29 : decode cX6_least 29 = .ok (.ifCond .ge 33, 3) := by decide +kernel
theorem dX6_least_32 : decode cX6_least 32 = .ok (.lload 8, 2) := by decide +kernel
theorem dX6_least_34 : decode cX6_least 34 = .ok (.lload 6, 2) := by decide +kernel
theorem dX6_least_36 : decode cX6_least 36 = .ok (.lcmp, 1) := by decide +kernel
theorem dX6_least_37 : decode cX6_least 37 = .ok (.ifCond .gt 25, 3) := by decide +kernel
theorem dX6_least_40 : decode cX6_least 40 = .ok (.lload 8, 2) := by decide +kernel
theorem dX6_least_42 : decode cX6_least 42 = .ok (.iload_n 2, 1) := by decide +kernel
theorem dX6_least_43 : decode cX6_least 43 = .ok (.lload_n 0, 1) := by decide +kernel
theorem dX6_least_44 : decode cX6_least 44 = .ok (.invokestatic 54, 3) := by decide +kernel
theorem dX6_least_47 : decode cX6_least 47 = .ok (.ifCond .eq 6, 3) := by decide +kernel
theorem dX6_least_50 : decode cX6_least 50 = .ok (.lload 8, 2) := by decide +kernel
theorem dX6_least_52 : decode cX6_least 52 = .ok (.lreturn, 1) := by decide +kernel
theorem dX6_least_53 : decode cX6_least 53 = .ok (.lload 8, 2) := by decide +kernel
theorem dX6_least_55 : decode cX6_least 55 = .ok (.lconst 1, 1) := by decide +kernel
theorem dX6_least_56 : decode cX6_least 56 = .ok (.ladd, 1) := by decide +kernel
theorem dX6_least_57 : decode cX6_least 57 = .ok (.lstore 8, 2) := by decide +kernel
theorem dX6_least_59 : decode cX6_least 59 = .ok (.goto (-39), 3) := by decide +kernel
theorem dX6_least_62 : decode cX6_least 62 = .ok (.lconst 0, 1) := by decide +kernel
theorem dX6_least_63 : decode cX6_least 63 = .ok (.lreturn, 1) := by decide +kernel
theorem dX7_init_0 : decode cX7_init 0 = .ok (.aload_n 0, 1) := by decide +kernel
theorem dX7_init_1 : decode cX7_init 1 = .ok (.invokespecial 1, 3) := by decide +kernel
theorem dX7_init_4 : decode cX7_init 4 = .ok (.aload_n 0, 1) := by decide +kernel
theorem dX7_init_5 : decode cX7_init 5 = .ok (.bipush 40, 2) := by decide +kernel
theorem dX7_init_7 : decode cX7_init 7 = .ok (.newarray .int, 2) := by decide +kernel
theorem dX7_init_9 : decode cX7_init 9 = .ok (.putfield 9, 3) := by decide +kernel
theorem dX7_init_12 : decode cX7_init 12 = .ok (.aload_n 0, 1) := by decide +kernel
theorem dX7_init_13 : decode cX7_init 13 = .ok (.bipush 40, 2) := by decide +kernel
theorem dX7_init_15 : decode cX7_init 15 = .ok (.newarray .int, 2) := by decide +kernel
theorem dX7_init_17 : decode cX7_init 17 = .ok (.putfield 13, 3) := by decide +kernel
theorem dX7_init_20 : decode cX7_init 20 = .ok (.aload_n 0, 1) := by decide +kernel
theorem dX7_init_21 : decode cX7_init 21 = .ok (.bipush 40, 2) := by decide +kernel
theorem dX7_init_23 : decode cX7_init 23 = .ok (.newarray .int, 2) := by decide +kernel
theorem dX7_init_25 : decode cX7_init 25 = .ok (.putfield 16, 3) := by decide +kernel
theorem dX7_init_28 : decode cX7_init 28 = .ok (.return_, 1) := by decide +kernel
theorem dX7_mayBe_0 : decode cX7_mayBe 0 = .ok (.iload_n 0, 1) := by decide +kernel
theorem dX7_mayBe_1 : decode cX7_mayBe 1 = .ok (.ifCond .lt 26, 3) := by decide +kernel
theorem dX7_mayBe_4 : decode cX7_mayBe 4 = .ok (.iload_n 0, 1) := by decide +kernel
theorem dX7_mayBe_5 : decode cX7_mayBe 5 = .ok (.sipush 9999, 3) := by decide +kernel
theorem dX7_mayBe_8 : decode cX7_mayBe 8 = .ok (.if_icmp .gt 19, 3) := by decide +kernel
theorem dX7_mayBe_11 : decode cX7_mayBe 11 = .ok (.iload_n 1, 1) := by decide +kernel
theorem dX7_mayBe_12 : decode cX7_mayBe 12 = .ok (.ldc 19, 2) := by decide +kernel
theorem dX7_mayBe_14 : decode cX7_mayBe 14 = .ok (.if_icmp .lt 13, 3) := by decide +kernel
theorem dX7_mayBe_17 : decode cX7_mayBe 17 = .ok (.iload_n 1, 1) := by decide +kernel
theorem dX7_mayBe_18 : decode cX7_mayBe 18 = .ok (.ldc 20, 2) := by decide +kernel
theorem dX7_mayBe_20 : decode cX7_mayBe 20 = .ok (.if_icmp .gt 7, 3) := by decide +kernel
theorem dX7_mayBe_23 : decode cX7_mayBe 23 = .ok (.iconst 1, 1) := by decide +kernel
theorem dX7_mayBe_24 : decode cX7_mayBe 24 = .ok (.goto 4, 3) := by decide +kernel
theorem dX7_mayBe_27 : decode cX7_mayBe 27 = .ok (.iconst 0, 1) := by decide +kernel
theorem dX7_mayBe_28 : decode cX7_mayBe 28 = .ok (.ireturn, 1) := by decide +kernel
theorem dX7_size_0 : decode cX7_size 0 = .ok (.aload_n 0, 1) := by decide +kernel
theorem dX7_size_1 : decode cX7_size 1 = .ok (.getfield 21, 3) := by decide +kernel
theorem dX7_size_4 : decode cX7_size 4 = .ok (.ireturn, 1) := by decide +kernel
theorem dX7_has_0 : decode cX7_has 0 = .ok (.iload_n 1, 1) := by decide +kernel
theorem dX7_has_1 : decode cX7_has 1 = .ok (.ifCond .lt 15, 3) := by decide +kernel
theorem dX7_has_4 : decode cX7_has 4 = .ok (.iload_n 1, 1) := by decide +kernel
theorem dX7_has_5 : decode cX7_has 5 = .ok (.aload_n 0, 1) := by decide +kernel
theorem dX7_has_6 : decode cX7_has 6 = .ok (.getfield 21, 3) := by decide +kernel
theorem dX7_has_9 : decode cX7_has 9 = .ok (.if_icmp .ge 7, 3) := by decide +kernel
theorem dX7_has_12 : decode cX7_has 12 = .ok (.iconst 1, 1) := by decide +kernel
theorem dX7_has_13 : decode cX7_has 13 = .ok (.goto 4, 3) := by decide +kernel
theorem dX7_has_16 : decode cX7_has 16 = .ok (.iconst 0, 1) := by decide +kernel
theorem dX7_has_17 : decode cX7_has 17 = .ok (.ireturn, 1) := by decide +kernel
theorem dX7_takes_0 : decode cX7_takes 0 = .ok (.aload_n 0, 1) := by decide +kernel
theorem dX7_takes_1 : decode cX7_takes 1 = .ok (.getfield 21, 3) := by decide +kernel
theorem dX7_takes_4 : decode cX7_takes 4 = .ok (.bipush 40, 2) := by decide +kernel
theorem dX7_takes_6 : decode cX7_takes 6 = .ok (.if_icmp .lt 5, 3) := by decide +kernel
theorem dX7_takes_9 : decode cX7_takes 9 = .ok (.iconst 0, 1) := by decide +kernel
theorem dX7_takes_10 : decode cX7_takes 10 = .ok (.ireturn, 1) := by decide +kernel
theorem dX7_takes_11 : decode cX7_takes 11 = .ok (.aload_n 0, 1) := by decide +kernel
theorem dX7_takes_12 : decode cX7_takes 12 = .ok (.getfield 9, 3) := by decide +kernel
theorem dX7_takes_15 : decode cX7_takes 15 = .ok (.aload_n 0, 1) := by decide +kernel
theorem dX7_takes_16 : decode cX7_takes 16 = .ok (.getfield 21, 3) := by decide +kernel
theorem dX7_takes_19 : decode cX7_takes 19 = .ok (.iload_n 1, 1) := by decide +kernel
theorem dX7_takes_20 : decode cX7_takes 20 = .ok (.iastore, 1) := by decide +kernel
theorem dX7_takes_21 : decode cX7_takes 21 = .ok (.aload_n 0, 1) := by decide +kernel
theorem dX7_takes_22 : decode cX7_takes 22 = .ok (.getfield 13, 3) := by decide +kernel
theorem dX7_takes_25 : decode cX7_takes 25 = .ok (.aload_n 0, 1) := by decide +kernel
theorem dX7_takes_26 : decode cX7_takes 26 = .ok (.getfield 21, 3) := by decide +kernel
theorem dX7_takes_29 : decode cX7_takes 29 = .ok (.iload_n 2, 1) := by decide +kernel
theorem dX7_takes_30 : decode cX7_takes 30 = .ok (.iastore, 1) := by decide +kernel
theorem dX7_takes_31 : decode cX7_takes 31 = .ok (.aload_n 0, 1) := by decide +kernel
theorem dX7_takes_32 : decode cX7_takes 32 = .ok (.getfield 16, 3) := by decide +kernel
theorem dX7_takes_35 : decode cX7_takes 35 = .ok (.aload_n 0, 1) := by decide +kernel
theorem dX7_takes_36 : decode cX7_takes 36 = .ok (.getfield 21, 3) := by decide +kernel
theorem dX7_takes_39 : decode cX7_takes 39 = .ok (.iload_n 3, 1) := by decide +kernel
theorem dX7_takes_40 : decode cX7_takes 40 = .ok (.iastore, 1) := by decide +kernel
theorem dX7_takes_41 : decode cX7_takes 41 = .ok (.aload_n 0, 1) := by decide +kernel
theorem dX7_takes_42 : decode cX7_takes 42 = .ok (.dup, 1) := by decide +kernel
theorem dX7_takes_43 : decode cX7_takes 43 = .ok (.getfield 21, 3) := by decide +kernel
theorem dX7_takes_46 : decode cX7_takes 46 = .ok (.iconst 1, 1) := by decide +kernel
theorem dX7_takes_47 : decode cX7_takes 47 = .ok (.iadd, 1) := by decide +kernel
theorem dX7_takes_48 : decode cX7_takes 48 = .ok (.putfield 21, 3) := by decide +kernel
theorem dX7_takes_51 : decode cX7_takes 51 = .ok (.iconst 1, 1) := by decide +kernel
theorem dX7_takes_52 : decode cX7_takes 52 = .ok (.ireturn, 1) := by decide +kernel
theorem dX7_pair_0 : decode cX7_pair 0 = .ok (.aload_n 0, 1) := by decide +kernel
theorem dX7_pair_1 : decode cX7_pair 1 = .ok (.iload_n 1, 1) := by decide +kernel
theorem dX7_pair_2 : decode cX7_pair 2 = .ok (.invokevirtual 25, 3) := by decide +kernel
theorem dX7_pair_5 : decode cX7_pair 5 = .ok (.ifCond .eq 12, 3) := by decide +kernel
theorem dX7_pair_8 : decode cX7_pair 8 = .ok (.aload_n 0, 1) := by decide +kernel
theorem dX7_pair_9 : decode cX7_pair 9 = .ok (.getfield 9, 3) := by decide +kernel
theorem dX7_pair_12 : decode cX7_pair 12 = .ok (.iload_n 1, 1) := by decide +kernel
theorem dX7_pair_13 : decode cX7_pair 13 = .ok (.iaload, 1) := by decide +kernel
theorem dX7_pair_14 : decode cX7_pair 14 = .ok (.goto 4, 3) := by decide +kernel
theorem dX7_pair_17 : decode cX7_pair 17 = .ok (.iconst 0, 1) := by decide +kernel
theorem dX7_pair_18 : decode cX7_pair 18 = .ok (.ireturn, 1) := by decide +kernel
theorem dX7_tenths_0 : decode cX7_tenths 0 = .ok (.aload_n 0, 1) := by decide +kernel
theorem dX7_tenths_1 : decode cX7_tenths 1 = .ok (.iload_n 1, 1) := by decide +kernel
theorem dX7_tenths_2 : decode cX7_tenths 2 = .ok (.invokevirtual 25, 3) := by decide +kernel
theorem dX7_tenths_5 : decode cX7_tenths 5 = .ok (.ifCond .eq 12, 3) := by decide +kernel
theorem dX7_tenths_8 : decode cX7_tenths 8 = .ok (.aload_n 0, 1) := by decide +kernel
theorem dX7_tenths_9 : decode cX7_tenths 9 = .ok (.getfield 13, 3) := by decide +kernel
theorem dX7_tenths_12 : decode cX7_tenths 12 = .ok (.iload_n 1, 1) := by decide +kernel
theorem dX7_tenths_13 : decode cX7_tenths 13 = .ok (.iaload, 1) := by decide +kernel
theorem dX7_tenths_14 : decode cX7_tenths 14 = .ok (.goto 4, 3) := by decide +kernel
theorem dX7_tenths_17 : decode cX7_tenths 17 = .ok (.iconst 0, 1) := by decide +kernel
theorem dX7_tenths_18 : decode cX7_tenths 18 = .ok (.ireturn, 1) := by decide +kernel
theorem dX7_answerOf_0 : decode cX7_answerOf 0 = .ok (.aload_n 0, 1) := by decide +kernel
theorem dX7_answerOf_1 : decode cX7_answerOf 1 = .ok (.iload_n 1, 1) := by decide +kernel
theorem dX7_answerOf_2 : decode cX7_answerOf 2 = .ok (.invokevirtual 25, 3) := by decide +kernel
theorem dX7_answerOf_5 : decode cX7_answerOf 5 = .ok (.ifCond .eq 12, 3) := by decide +kernel
theorem dX7_answerOf_8 : decode cX7_answerOf 8 = .ok (.aload_n 0, 1) := by decide +kernel
theorem dX7_answerOf_9 : decode cX7_answerOf 9 = .ok (.getfield 16, 3) := by decide +kernel
theorem dX7_answerOf_12 : decode cX7_answerOf 12 = .ok (.iload_n 1, 1) := by decide +kernel
theorem dX7_answerOf_13 : decode cX7_answerOf 13 = .ok (.iaload, 1) := by decide +kernel
theorem dX7_answerOf_14 : decode cX7_answerOf 14 = .ok (.goto 4, 3) := by decide +kernel
theorem dX7_answerOf_17 : decode cX7_answerOf 17 = .ok (.iconst 0, 1) := by decide +kernel
theorem dX7_answerOf_18 : decode cX7_answerOf 18 = .ok (.ireturn, 1) := by decide +kernel
theorem dX8_init_0 : decode cX8_init 0 = .ok (.aload_n 0, 1) := by decide +kernel
theorem dX8_init_1 : decode cX8_init 1 = .ok (.invokespecial 1, 3) := by decide +kernel
theorem dX8_init_4 : decode cX8_init 4 = .ok (.aload_n 0, 1) := by decide +kernel
theorem dX8_init_5 : decode cX8_init 5 = .ok (.iconst (-1), 1) := by decide +kernel
theorem dX8_init_6 : decode cX8_init 6 = .ok (.putfield 9, 3) := by decide +kernel
theorem dX8_init_9 : decode cX8_init 9 = .ok (.aload_n 0, 1) := by decide +kernel
theorem dX8_init_10 : decode cX8_init 10 = .ok (.iconst (-1), 1) := by decide +kernel
theorem dX8_init_11 : decode cX8_init 11 = .ok (.putfield 13, 3) := by decide +kernel
theorem dX8_init_14 : decode cX8_init 14 = .ok (.aload_n 0, 1) := by decide +kernel
theorem dX8_init_15 : decode cX8_init 15 = .ok (.bipush 60, 2) := by decide +kernel
theorem dX8_init_17 : decode cX8_init 17 = .ok (.newarray .long, 2) := by decide +kernel
theorem dX8_init_19 : decode cX8_init 19 = .ok (.putfield 16, 3) := by decide +kernel
theorem dX8_init_22 : decode cX8_init 22 = .ok (.return_, 1) := by decide +kernel
theorem dX8_isSort_0 : decode cX8_isSort 0 = .ok (.iload_n 0, 1) := by decide +kernel
theorem dX8_isSort_1 : decode cX8_isSort 1 = .ok (.ifCond .lt 12, 3) := by decide +kernel
theorem dX8_isSort_4 : decode cX8_isSort 4 = .ok (.iload_n 0, 1) := by decide +kernel
theorem dX8_isSort_5 : decode cX8_isSort 5 = .ok (.iconst 5, 1) := by decide +kernel
theorem dX8_isSort_6 : decode cX8_isSort 6 = .ok (.if_icmp .ge 7, 3) := by decide +kernel
theorem dX8_isSort_9 : decode cX8_isSort 9 = .ok (.iconst 1, 1) := by decide +kernel
theorem dX8_isSort_10 : decode cX8_isSort 10 = .ok (.goto 4, 3) := by decide +kernel
theorem dX8_isSort_13 : decode cX8_isSort 13 = .ok (.iconst 0, 1) := by decide +kernel
theorem dX8_isSort_14 : decode cX8_isSort 14 = .ok (.ireturn, 1) := by decide +kernel
theorem dX8_isEmpty_0 : decode cX8_isEmpty 0 = .ok (.aload_n 0, 1) := by decide +kernel
theorem dX8_isEmpty_1 : decode cX8_isEmpty 1 = .ok (.getfield 9, 3) := by decide +kernel
theorem dX8_isEmpty_4 : decode cX8_isEmpty 4 = .ok (.iconst (-1), 1) := by decide +kernel
theorem dX8_isEmpty_5 : decode cX8_isEmpty 5 = .ok (.if_icmp .ne 15, 3) := by decide +kernel
theorem dX8_isEmpty_8 : decode cX8_isEmpty 8 = .ok (.aload_n 0, 1) := by decide +kernel
theorem dX8_isEmpty_9 : decode cX8_isEmpty 9 = .ok (.getfield 13, 3) := by decide +kernel
theorem dX8_isEmpty_12 : decode cX8_isEmpty 12 = .ok (.iconst (-1), 1) := by decide +kernel
theorem dX8_isEmpty_13 : decode cX8_isEmpty 13 = .ok (.if_icmp .ne 7, 3) := by decide +kernel
theorem dX8_isEmpty_16 : decode cX8_isEmpty 16 = .ok (.iconst 1, 1) := by decide +kernel
theorem dX8_isEmpty_17 : decode cX8_isEmpty 17 = .ok (.goto 4, 3) := by decide +kernel
theorem dX8_isEmpty_20 : decode cX8_isEmpty 20 = .ok (.iconst 0, 1) := by decide +kernel
theorem dX8_isEmpty_21 : decode cX8_isEmpty 21 = .ok (.ireturn, 1) := by decide +kernel
theorem dX8_holdsRow_0 : decode cX8_holdsRow 0 = .ok (.aload_n 0, 1) := by decide +kernel
theorem dX8_holdsRow_1 : decode cX8_holdsRow 1 = .ok (.getfield 13, 3) := by decide +kernel
theorem dX8_holdsRow_4 : decode cX8_holdsRow 4 = .ok (.iconst (-1), 1) := by decide +kernel
theorem dX8_holdsRow_5 : decode cX8_holdsRow 5 = .ok (.if_icmp .eq 7, 3) := by decide +kernel
theorem dX8_holdsRow_8 : decode cX8_holdsRow 8 = .ok (.iconst 1, 1) := by decide +kernel
theorem dX8_holdsRow_9 : decode cX8_holdsRow 9 = .ok (.goto 4, 3) := by decide +kernel
theorem dX8_holdsRow_12 : decode cX8_holdsRow 12 = .ok (.iconst 0, 1) := by decide +kernel
theorem dX8_holdsRow_13 : decode cX8_holdsRow 13 = .ok (.ireturn, 1) := by decide +kernel
theorem dX8_holdsInts_0 : decode cX8_holdsInts 0 = .ok (.aload_n 0, 1) := by decide +kernel
theorem dX8_holdsInts_1 : decode cX8_holdsInts 1 = .ok (.getfield 13, 3) := by decide +kernel
theorem dX8_holdsInts_4 : decode cX8_holdsInts 4 = .ok (.iconst 2, 1) := by decide +kernel
theorem dX8_holdsInts_5 : decode cX8_holdsInts 5 = .ok (.if_icmp .ne 7, 3) := by decide +kernel
theorem dX8_holdsInts_8 : decode cX8_holdsInts 8 = .ok (.iconst 1, 1) := by decide +kernel
theorem dX8_holdsInts_9 : decode cX8_holdsInts 9 = .ok (.goto 4, 3) := by decide +kernel
theorem dX8_holdsInts_12 : decode cX8_holdsInts 12 = .ok (.iconst 0, 1) := by decide +kernel
theorem dX8_holdsInts_13 : decode cX8_holdsInts 13 = .ok (.ireturn, 1) := by decide +kernel
theorem dX8_bodyHeld_0 : decode cX8_bodyHeld 0 = .ok (.aload_n 0, 1) := by decide +kernel
theorem dX8_bodyHeld_1 : decode cX8_bodyHeld 1 = .ok (.getfield 9, 3) := by decide +kernel
theorem dX8_bodyHeld_4 : decode cX8_bodyHeld 4 = .ok (.ireturn, 1) := by decide +kernel
theorem dX8_sort_0 : decode cX8_sort 0 = .ok (.aload_n 0, 1) := by decide +kernel
theorem dX8_sort_1 : decode cX8_sort 1 = .ok (.getfield 13, 3) := by decide +kernel
theorem dX8_sort_4 : decode cX8_sort 4 = .ok (.ireturn, 1) := by decide +kernel
theorem dX8_size_0 : decode cX8_size 0 = .ok (.aload_n 0, 1) := by decide +kernel
theorem dX8_size_1 : decode cX8_size 1 = .ok (.getfield 20, 3) := by decide +kernel
theorem dX8_size_4 : decode cX8_size 4 = .ok (.ireturn, 1) := by decide +kernel
theorem dX8_holdBody_0 : decode cX8_holdBody 0 = .ok (.aload_n 0, 1) := by decide +kernel
theorem dX8_holdBody_1 : decode cX8_holdBody 1 = .ok (.iload_n 1, 1) := by decide +kernel
theorem dX8_holdBody_2 : decode cX8_holdBody 2 = .ok (.putfield 9, 3) := by decide +kernel
theorem dX8_holdBody_5 : decode cX8_holdBody 5 = .ok (.aload_n 0, 1) := by decide +kernel
theorem dX8_holdBody_6 : decode cX8_holdBody 6 = .ok (.iconst (-1), 1) := by decide +kernel
theorem dX8_holdBody_7 : decode cX8_holdBody 7 = .ok (.putfield 13, 3) := by decide +kernel
theorem dX8_holdBody_10 : decode cX8_holdBody 10 = .ok (.aload_n 0, 1) := by decide +kernel
theorem dX8_holdBody_11 : decode cX8_holdBody 11 = .ok (.iconst 0, 1) := by decide +kernel
theorem dX8_holdBody_12 : decode cX8_holdBody 12 = .ok (.putfield 20, 3) := by decide +kernel
theorem dX8_holdBody_15 : decode cX8_holdBody 15 = .ok (.return_, 1) := by decide +kernel
theorem dX8_holdRow_0 : decode cX8_holdRow 0 = .ok (.aload_n 0, 1) := by decide +kernel
theorem dX8_holdRow_1 : decode cX8_holdRow 1 = .ok (.iconst (-1), 1) := by decide +kernel
theorem dX8_holdRow_2 : decode cX8_holdRow 2 = .ok (.putfield 9, 3) := by decide +kernel
theorem dX8_holdRow_5 : decode cX8_holdRow 5 = .ok (.aload_n 0, 1) := by decide +kernel
theorem dX8_holdRow_6 : decode cX8_holdRow 6 = .ok (.iload_n 1, 1) := by decide +kernel
theorem dX8_holdRow_7 : decode cX8_holdRow 7 = .ok (.putfield 13, 3) := by decide +kernel
theorem dX8_holdRow_10 : decode cX8_holdRow 10 = .ok (.aload_n 0, 1) := by decide +kernel
theorem dX8_holdRow_11 : decode cX8_holdRow 11 = .ok (.iconst 0, 1) := by decide +kernel
theorem dX8_holdRow_12 : decode cX8_holdRow 12 = .ok (.iload_n 2, 1) := by decide +kernel
theorem dX8_holdRow_13 : decode cX8_holdRow 13 = .ok (.bipush 60, 2) := by decide +kernel
theorem dX8_holdRow_15 : decode cX8_holdRow 15 = .ok (.invokestatic 23, 3) := by decide +kernel
theorem dX8_holdRow_18 : decode cX8_holdRow 18 = .ok (.invokestatic 29, 3) := by decide +kernel
theorem dX8_holdRow_21 : decode cX8_holdRow 21 = .ok (.putfield 20, 3) := by decide +kernel
theorem dX8_holdRow_24 : decode cX8_holdRow 24 = .ok (.iconst 0, 1) := by decide +kernel
theorem dX8_holdRow_25 : decode cX8_holdRow 25 = .ok (.istore_n 3, 1) := by decide +kernel
theorem dX8_holdRow_26 : decode cX8_holdRow 26 = .ok (.iload_n 3, 1) := by decide +kernel
theorem dX8_holdRow_27 : decode cX8_holdRow 27 = .ok (.bipush 60, 2) := by decide +kernel
theorem dX8_holdRow_29 : decode cX8_holdRow 29 = .ok (.if_icmp .ge 16, 3) := by decide +kernel
theorem dX8_holdRow_32 : decode cX8_holdRow 32 = .ok (.aload_n 0, 1) := by decide +kernel
theorem dX8_holdRow_33 : decode cX8_holdRow 33 = .ok (.getfield 16, 3) := by decide +kernel
theorem dX8_holdRow_36 : decode cX8_holdRow 36 = .ok (.iload_n 3, 1) := by decide +kernel
theorem dX8_holdRow_37 : decode cX8_holdRow 37 = .ok (.lconst 0, 1) := by decide +kernel
theorem dX8_holdRow_38 : decode cX8_holdRow 38 = .ok (.lastore, 1) := by decide +kernel
theorem dX8_holdRow_39 : decode cX8_holdRow 39 = .ok (.iinc 3 1, 3) := by decide +kernel
theorem dX8_holdRow_42 : decode cX8_holdRow 42 = .ok (.goto (-16), 3) := by decide +kernel
theorem dX8_holdRow_45 : decode cX8_holdRow 45 = .ok (.return_, 1) := by decide +kernel
theorem dX8_hasPlaces_0 : decode cX8_hasPlaces 0 = .ok (.iload_n 1, 1) := by decide +kernel
theorem dX8_hasPlaces_1 : decode cX8_hasPlaces 1 = .ok (.ifCond .lt 25, 3) := by decide +kernel
theorem dX8_hasPlaces_4 : decode cX8_hasPlaces 4 = .ok (.iload_n 2, 1) := by decide +kernel
theorem dX8_hasPlaces_5 : decode cX8_hasPlaces 5 = .ok (.ifCond .lt 21, 3) := by decide +kernel
theorem dX8_hasPlaces_8 : decode cX8_hasPlaces 8 = .ok (.iload_n 1, 1) := by decide +kernel
theorem dX8_hasPlaces_9 : decode cX8_hasPlaces 9 = .ok (.i2l, 1) := by decide +kernel
theorem dX8_hasPlaces_10 : decode cX8_hasPlaces 10 = .ok (.iload_n 2, 1) := by decide +kernel
theorem dX8_hasPlaces_11 : decode cX8_hasPlaces 11 = .ok (.i2l, 1) := by decide +kernel
theorem dX8_hasPlaces_12 : decode cX8_hasPlaces 12 = .ok (.ladd, 1) := by decide +kernel
theorem dX8_hasPlaces_13 : decode cX8_hasPlaces 13 = .ok (.aload_n 0, 1) := by decide +kernel
theorem dX8_hasPlaces_14 : decode cX8_hasPlaces 14 = .ok (.getfield 20, 3) := by decide +kernel
theorem dX8_hasPlaces_17 : decode cX8_hasPlaces 17 = .ok (.i2l, 1) := by decide +kernel
theorem dX8_hasPlaces_18 : decode cX8_hasPlaces 18 = .ok (.lcmp, 1) := by decide +kernel
theorem dX8_hasPlaces_19 : decode cX8_hasPlaces 19 = .ok (.ifCond .gt 7, 3) := by decide +kernel
theorem dX8_hasPlaces_22 : decode cX8_hasPlaces 22 = .ok (.iconst 1, 1) := by decide +kernel
theorem dX8_hasPlaces_23 : decode cX8_hasPlaces 23 = .ok (.goto 4, 3) := by decide +kernel
theorem dX8_hasPlaces_26 : decode cX8_hasPlaces 26 = .ok (.iconst 0, 1) := by decide +kernel
theorem dX8_hasPlaces_27 : decode cX8_hasPlaces 27 = .ok (.ireturn, 1) := by decide +kernel
theorem dX8_elementAt_0 : decode cX8_elementAt 0 = .ok (.aload_n 0, 1) := by decide +kernel
theorem dX8_elementAt_1 : decode cX8_elementAt 1 = .ok (.iload_n 1, 1) := by decide +kernel
theorem dX8_elementAt_2 : decode cX8_elementAt 2 = .ok (.iconst 1, 1) := by decide +kernel
theorem dX8_elementAt_3 : decode cX8_elementAt 3 = .ok (.invokevirtual 32, 3) := by decide +kernel
theorem dX8_elementAt_6 : decode cX8_elementAt 6 = .ok (.ifCond .eq 12, 3) := by decide +kernel
theorem dX8_elementAt_9 : decode cX8_elementAt 9 = .ok (.aload_n 0, 1) := by decide +kernel
theorem dX8_elementAt_10 : decode cX8_elementAt 10 = .ok (.getfield 16, 3) := by decide +kernel
theorem dX8_elementAt_13 : decode cX8_elementAt 13 = .ok (.iload_n 1, 1) := by decide +kernel
theorem dX8_elementAt_14 : decode cX8_elementAt 14 = .ok (.laload, 1) := by decide +kernel
theorem dX8_elementAt_15 : decode cX8_elementAt 15 = .ok (.goto 4, 3) := by decide +kernel
theorem dX8_elementAt_18 : decode cX8_elementAt 18 = .ok (.lconst 0, 1) := by decide +kernel
theorem dX8_elementAt_19 : decode cX8_elementAt 19 = .ok (.lreturn, 1) := by decide +kernel
theorem dX8_setElement_0 : decode cX8_setElement 0 = .ok (.aload_n 0, 1) := by decide +kernel
theorem dX8_setElement_1 : decode cX8_setElement 1 = .ok (.iload_n 1, 1) := by decide +kernel
theorem dX8_setElement_2 : decode cX8_setElement 2 = .ok (.iconst 1, 1) := by decide +kernel
theorem dX8_setElement_3 : decode cX8_setElement 3 = .ok (.invokevirtual 32, 3) := by decide +kernel
theorem dX8_setElement_6 : decode cX8_setElement 6 = .ok (.ifCond .ne 4, 3) := by decide +kernel
theorem dX8_setElement_9 : decode cX8_setElement 9 = .ok (.return_, 1) := by decide +kernel
theorem dX8_setElement_10 : decode cX8_setElement 10 = .ok (.aload_n 0, 1) := by decide +kernel
theorem dX8_setElement_11 : decode cX8_setElement 11 = .ok (.getfield 13, 3) := by decide +kernel
theorem dX8_setElement_14 : decode cX8_setElement 14 = .ok (.tableswitch 92 0 4 #[34, 47, 60, 92, 72], 34) := by decide +kernel
theorem dX8_setElement_48 : decode cX8_setElement 48 = .ok (.aload_n 0, 1) := by decide +kernel
theorem dX8_setElement_49 : decode cX8_setElement 49 = .ok (.getfield 16, 3) := by decide +kernel
theorem dX8_setElement_52 : decode cX8_setElement 52 = .ok (.iload_n 1, 1) := by decide +kernel
theorem dX8_setElement_53 : decode cX8_setElement 53 = .ok (.lload_n 2, 1) := by decide +kernel
theorem dX8_setElement_54 : decode cX8_setElement 54 = .ok (.l2i, 1) := by decide +kernel
theorem dX8_setElement_55 : decode cX8_setElement 55 = .ok (.i2b, 1) := by decide +kernel
theorem dX8_setElement_56 : decode cX8_setElement 56 = .ok (.i2l, 1) := by decide +kernel
theorem dX8_setElement_57 : decode cX8_setElement 57 = .ok (.lastore, 1) := by decide +kernel
theorem dX8_setElement_58 : decode cX8_setElement 58 = .ok (.goto 55, 3) := by decide +kernel
theorem dX8_setElement_61 : decode cX8_setElement 61 = .ok (.aload_n 0, 1) := by decide +kernel
theorem dX8_setElement_62 : decode cX8_setElement 62 = .ok (.getfield 16, 3) := by decide +kernel
theorem dX8_setElement_65 : decode cX8_setElement 65 = .ok (.iload_n 1, 1) := by decide +kernel
theorem dX8_setElement_66 : decode cX8_setElement 66 = .ok (.lload_n 2, 1) := by decide +kernel
theorem dX8_setElement_67 : decode cX8_setElement 67 = .ok (.l2i, 1) := by decide +kernel
theorem dX8_setElement_68 : decode cX8_setElement 68 = .ok (.i2s, 1) := by decide +kernel
theorem dX8_setElement_69 : decode cX8_setElement 69 = .ok (.i2l, 1) := by decide +kernel
theorem dX8_setElement_70 : decode cX8_setElement 70 = .ok (.lastore, 1) := by decide +kernel
theorem dX8_setElement_71 : decode cX8_setElement 71 = .ok (.goto 42, 3) := by decide +kernel
theorem dX8_setElement_74 : decode cX8_setElement 74 = .ok (.aload_n 0, 1) := by decide +kernel
theorem dX8_setElement_75 : decode cX8_setElement 75 = .ok (.getfield 16, 3) := by decide +kernel
theorem dX8_setElement_78 : decode cX8_setElement 78 = .ok (.iload_n 1, 1) := by decide +kernel
theorem dX8_setElement_79 : decode cX8_setElement 79 = .ok (.lload_n 2, 1) := by decide +kernel
theorem dX8_setElement_80 : decode cX8_setElement 80 = .ok (.l2i, 1) := by decide +kernel
theorem dX8_setElement_81 : decode cX8_setElement 81 = .ok (.i2l, 1) := by decide +kernel
theorem dX8_setElement_82 : decode cX8_setElement 82 = .ok (.lastore, 1) := by decide +kernel
theorem dX8_setElement_83 : decode cX8_setElement 83 = .ok (.goto 30, 3) := by decide +kernel
theorem dX8_setElement_86 : decode cX8_setElement 86 = .ok (.aload_n 0, 1) := by decide +kernel
theorem dX8_setElement_87 : decode cX8_setElement 87 = .ok (.getfield 16, 3) := by decide +kernel
theorem dX8_setElement_90 : decode cX8_setElement 90 = .ok (.iload_n 1, 1) := by decide +kernel
theorem dX8_setElement_91 : decode cX8_setElement 91 = .ok (.lload_n 2, 1) := by decide +kernel
theorem dX8_setElement_92 : decode cX8_setElement 92 = .ok (.lconst 0, 1) := by decide +kernel
theorem dX8_setElement_93 : decode cX8_setElement 93 = .ok (.lcmp, 1) := by decide +kernel
theorem dX8_setElement_94 : decode cX8_setElement 94 = .ok (.ifCond .eq 7, 3) := by decide +kernel
theorem dX8_setElement_97 : decode cX8_setElement 97 = .ok (.lconst 1, 1) := by decide +kernel
theorem dX8_setElement_98 : decode cX8_setElement 98 = .ok (.goto 4, 3) := by decide +kernel
theorem dX8_setElement_101 : decode cX8_setElement 101 = .ok (.lconst 0, 1) := by decide +kernel
theorem dX8_setElement_102 : decode cX8_setElement 102 = .ok (.lastore, 1) := by decide +kernel
theorem dX8_setElement_103 : decode cX8_setElement 103 = .ok (.goto 10, 3) := by decide +kernel
theorem dX8_setElement_106 : decode cX8_setElement 106 = .ok (.aload_n 0, 1) := by decide +kernel
theorem dX8_setElement_107 : decode cX8_setElement 107 = .ok (.getfield 16, 3) := by decide +kernel
theorem dX8_setElement_110 : decode cX8_setElement 110 = .ok (.iload_n 1, 1) := by decide +kernel
theorem dX8_setElement_111 : decode cX8_setElement 111 = .ok (.lload_n 2, 1) := by decide +kernel
theorem dX8_setElement_112 : decode cX8_setElement 112 = .ok (.lastore, 1) := by decide +kernel
theorem dX8_setElement_113 : decode cX8_setElement 113 = .ok (.return_, 1) := by decide +kernel
theorem dX8_copyFrom_0 : decode cX8_copyFrom 0 = .ok (.aload_n 1, 1) := by decide +kernel
theorem dX8_copyFrom_1 : decode cX8_copyFrom 1 = .ok (.iload_n 2, 1) := by decide +kernel
theorem dX8_copyFrom_2 : decode cX8_copyFrom 2 = .ok (.iload 4, 2) := by decide +kernel
theorem dX8_copyFrom_4 : decode cX8_copyFrom 4 = .ok (.invokevirtual 32, 3) := by decide +kernel
theorem dX8_copyFrom_7 : decode cX8_copyFrom 7 = .ok (.ifCond .eq 28, 3) := by decide +kernel
theorem dX8_copyFrom_10 : decode cX8_copyFrom 10 = .ok (.aload_n 0, 1) := by decide +kernel
theorem dX8_copyFrom_11 : decode cX8_copyFrom 11 = .ok (.iload_n 3, 1) := by decide +kernel
theorem dX8_copyFrom_12 : decode cX8_copyFrom 12 = .ok (.iload 4, 2) := by decide +kernel
theorem dX8_copyFrom_14 : decode cX8_copyFrom 14 = .ok (.invokevirtual 32, 3) := by decide +kernel
theorem dX8_copyFrom_17 : decode cX8_copyFrom 17 = .ok (.ifCond .eq 18, 3) := by decide +kernel
theorem dX8_copyFrom_20 : decode cX8_copyFrom 20 = .ok (.aload_n 1, 1) := by decide +kernel
theorem dX8_copyFrom_21 : decode cX8_copyFrom 21 = .ok (.getfield 16, 3) := by decide +kernel
theorem dX8_copyFrom_24 : decode cX8_copyFrom 24 = .ok (.iload_n 2, 1) := by decide +kernel
theorem dX8_copyFrom_25 : decode cX8_copyFrom 25 = .ok (.aload_n 0, 1) := by decide +kernel
theorem dX8_copyFrom_26 : decode cX8_copyFrom 26 = .ok (.getfield 16, 3) := by decide +kernel
theorem dX8_copyFrom_29 : decode cX8_copyFrom 29 = .ok (.iload_n 3, 1) := by decide +kernel
theorem dX8_copyFrom_30 : decode cX8_copyFrom 30 = .ok (.iload 4, 2) := by decide +kernel
theorem dX8_copyFrom_32 : decode cX8_copyFrom 32 = .ok (.invokestatic 36, 3) := by decide +kernel
theorem dX8_copyFrom_35 : decode cX8_copyFrom 35 = .ok (.return_, 1) := by decide +kernel
theorem dX9_init_0 : decode cX9_init 0 = .ok (.aload_n 0, 1) := by decide +kernel
theorem dX9_init_1 : decode cX9_init 1 = .ok (.invokespecial 1, 3) := by decide +kernel
theorem dX9_init_4 : decode cX9_init 4 = .ok (.aload_n 0, 1) := by decide +kernel
theorem dX9_init_5 : decode cX9_init 5 = .ok (.bipush 120, 2) := by decide +kernel
theorem dX9_init_7 : decode cX9_init 7 = .ok (.newarray .int, 2) := by decide +kernel
theorem dX9_init_9 : decode cX9_init 9 = .ok (.putfield 9, 3) := by decide +kernel
theorem dX9_init_12 : decode cX9_init 12 = .ok (.return_, 1) := by decide +kernel
theorem dX9_length_0 : decode cX9_length 0 = .ok (.aload_n 0, 1) := by decide +kernel
theorem dX9_length_1 : decode cX9_length 1 = .ok (.getfield 13, 3) := by decide +kernel
theorem dX9_length_4 : decode cX9_length 4 = .ok (.ireturn, 1) := by decide +kernel
theorem dX9_clear_0 : decode cX9_clear 0 = .ok (.aload_n 0, 1) := by decide +kernel
theorem dX9_clear_1 : decode cX9_clear 1 = .ok (.iconst 0, 1) := by decide +kernel
theorem dX9_clear_2 : decode cX9_clear 2 = .ok (.putfield 13, 3) := by decide +kernel
theorem dX9_clear_5 : decode cX9_clear 5 = .ok (.return_, 1) := by decide +kernel
theorem dX9_become_0 : decode cX9_become 0 = .ok (.aload_n 1, 1) := by decide +kernel
theorem dX9_become_1 : decode cX9_become 1 = .ok (.getfield 9, 3) := by decide +kernel
theorem dX9_become_4 : decode cX9_become 4 = .ok (.iconst 0, 1) := by decide +kernel
theorem dX9_become_5 : decode cX9_become 5 = .ok (.aload_n 0, 1) := by decide +kernel
theorem dX9_become_6 : decode cX9_become 6 = .ok (.getfield 9, 3) := by decide +kernel
theorem dX9_become_9 : decode cX9_become 9 = .ok (.iconst 0, 1) := by decide +kernel
theorem dX9_become_10 : decode cX9_become 10 = .ok (.aload_n 1, 1) := by decide +kernel
theorem dX9_become_11 : decode cX9_become 11 = .ok (.getfield 13, 3) := by decide +kernel
theorem dX9_become_14 : decode cX9_become 14 = .ok (.invokestatic 17, 3) := by decide +kernel
theorem dX9_become_17 : decode cX9_become 17 = .ok (.aload_n 0, 1) := by decide +kernel
theorem dX9_become_18 : decode cX9_become 18 = .ok (.aload_n 1, 1) := by decide +kernel
theorem dX9_become_19 : decode cX9_become 19 = .ok (.getfield 13, 3) := by decide +kernel
theorem dX9_become_22 : decode cX9_become 22 = .ok (.putfield 13, 3) := by decide +kernel
theorem dX9_become_25 : decode cX9_become 25 = .ok (.return_, 1) := by decide +kernel
theorem dX9_takes_0 : decode cX9_takes 0 = .ok (.aload_n 0, 1) := by decide +kernel
theorem dX9_takes_1 : decode cX9_takes 1 = .ok (.getfield 13, 3) := by decide +kernel
theorem dX9_takes_4 : decode cX9_takes 4 = .ok (.iload_n 1, 1) := by decide +kernel
theorem dX9_takes_5 : decode cX9_takes 5 = .ok (.iadd, 1) := by decide +kernel
theorem dX9_takes_6 : decode cX9_takes 6 = .ok (.bipush 120, 2) := by decide +kernel
theorem dX9_takes_8 : decode cX9_takes 8 = .ok (.if_icmp .le 5, 3) := by decide +kernel
theorem dX9_takes_11 : decode cX9_takes 11 = .ok (.iconst 0, 1) := by decide +kernel
theorem dX9_takes_12 : decode cX9_takes 12 = .ok (.ireturn, 1) := by decide +kernel
theorem dX9_takes_13 : decode cX9_takes 13 = .ok (.iconst 0, 1) := by decide +kernel
theorem dX9_takes_14 : decode cX9_takes 14 = .ok (.istore_n 3, 1) := by decide +kernel
theorem dX9_takes_15 : decode cX9_takes 15 = .ok (.iload_n 3, 1) := by decide +kernel
theorem dX9_takes_16 : decode cX9_takes 16 = .ok (.iload_n 1, 1) := by decide +kernel
theorem dX9_takes_17 : decode cX9_takes 17 = .ok (.if_icmp .ge 38, 3) := by decide +kernel
theorem dX9_takes_20 : decode cX9_takes 20 = .ok (.aload_n 0, 1) := by decide +kernel
theorem dX9_takes_21 : decode cX9_takes 21 = .ok (.getfield 9, 3) := by decide +kernel
theorem dX9_takes_24 : decode cX9_takes 24 = .ok (.aload_n 0, 1) := by decide +kernel
theorem dX9_takes_25 : decode cX9_takes 25 = .ok (.getfield 13, 3) := by decide +kernel
theorem dX9_takes_28 : decode cX9_takes 28 = .ok (.iload_n 2, 1) := by decide +kernel
theorem dX9_takes_29 : decode cX9_takes 29 = .ok (.bipush 8, 2) := by decide +kernel
theorem dX9_takes_31 : decode cX9_takes 31 = .ok (.iload_n 3, 1) := by decide +kernel
theorem dX9_takes_32 : decode cX9_takes 32 = .ok (.imul, 1) := by decide +kernel
theorem dX9_takes_33 : decode cX9_takes 33 = .ok (.iushr, 1) := by decide +kernel
theorem dX9_takes_34 : decode cX9_takes 34 = .ok (.sipush 255, 3) := by decide +kernel
theorem dX9_takes_37 : decode cX9_takes 37 = .ok (.iand, 1) := by decide +kernel
theorem dX9_takes_38 : decode cX9_takes 38 = .ok (.iastore, 1) := by decide +kernel
theorem dX9_takes_39 : decode cX9_takes 39 = .ok (.aload_n 0, 1) := by decide +kernel
theorem dX9_takes_40 : decode cX9_takes 40 = .ok (.dup, 1) := by decide +kernel
theorem dX9_takes_41 : decode cX9_takes 41 = .ok (.getfield 13, 3) := by decide +kernel
theorem dX9_takes_44 : decode cX9_takes 44 = .ok (.iconst 1, 1) := by decide +kernel
theorem dX9_takes_45 : decode cX9_takes 45 = .ok (.iadd, 1) := by decide +kernel
theorem dX9_takes_46 : decode cX9_takes 46 = .ok (.putfield 13, 3) := by decide +kernel
theorem dX9_takes_49 : decode cX9_takes 49 = .ok (.iinc 3 1, 3) := by decide +kernel
theorem dX9_takes_52 : decode cX9_takes 52 = .ok (.goto (-37), 3) := by decide +kernel
theorem dX9_takes_55 : decode cX9_takes 55 = .ok (.iconst 1, 1) := by decide +kernel
theorem dX9_takes_56 : decode cX9_takes 56 = .ok (.ireturn, 1) := by decide +kernel
theorem dX9_at_0 : decode cX9_at 0 = .ok (.iload_n 1, 1) := by decide +kernel
theorem dX9_at_1 : decode cX9_at 1 = .ok (.ifCond .lt 20, 3) := by decide +kernel
theorem dX9_at_4 : decode cX9_at 4 = .ok (.iload_n 1, 1) := by decide +kernel
theorem dX9_at_5 : decode cX9_at 5 = .ok (.aload_n 0, 1) := by decide +kernel
theorem dX9_at_6 : decode cX9_at 6 = .ok (.getfield 13, 3) := by decide +kernel
theorem dX9_at_9 : decode cX9_at 9 = .ok (.if_icmp .ge 12, 3) := by decide +kernel
theorem dX9_at_12 : decode cX9_at 12 = .ok (.aload_n 0, 1) := by decide +kernel
theorem dX9_at_13 : decode cX9_at 13 = .ok (.getfield 9, 3) := by decide +kernel
theorem dX9_at_16 : decode cX9_at 16 = .ok (.iload_n 1, 1) := by decide +kernel
theorem dX9_at_17 : decode cX9_at 17 = .ok (.iaload, 1) := by decide +kernel
theorem dX9_at_18 : decode cX9_at 18 = .ok (.goto 4, 3) := by decide +kernel
theorem dX9_at_21 : decode cX9_at 21 = .ok (.iconst (-1), 1) := by decide +kernel
theorem dX9_at_22 : decode cX9_at 22 = .ok (.ireturn, 1) := by decide +kernel
theorem dX10_init_0 : decode cX10_init 0 = .ok (.aload_n 0, 1) := by decide +kernel
theorem dX10_init_1 : decode cX10_init 1 = .ok (.invokespecial 1, 3) := by decide +kernel
theorem dX10_init_4 : decode cX10_init 4 = .ok (.aload_n 0, 1) := by decide +kernel
theorem dX10_init_5 : decode cX10_init 5 = .ok (.new 7, 3) := by decide +kernel
theorem dX10_init_8 : decode cX10_init 8 = .ok (.dup, 1) := by decide +kernel
theorem dX10_init_9 : decode cX10_init 9 = .ok (.invokespecial 9, 3) := by decide +kernel
theorem dX10_init_12 : decode cX10_init 12 = .ok (.putfield 10, 3) := by decide +kernel
theorem dX10_init_15 : decode cX10_init 15 = .ok (.aload_n 0, 1) := by decide +kernel
theorem dX10_init_16 : decode cX10_init 16 = .ok (.bipush 6, 2) := by decide +kernel
theorem dX10_init_18 : decode cX10_init 18 = .ok (.anewarray 16, 3) := by decide +kernel
theorem dX10_init_21 : decode cX10_init 21 = .ok (.putfield 18, 3) := by decide +kernel
theorem dX10_init_24 : decode cX10_init 24 = .ok (.iconst 0, 1) := by decide +kernel
theorem dX10_init_25 : decode cX10_init 25 = .ok (.istore_n 1, 1) := by decide +kernel
theorem dX10_init_26 : decode cX10_init 26 = .ok (.iload_n 1, 1) := by decide +kernel
theorem dX10_init_27 : decode cX10_init 27 = .ok (.bipush 6, 2) := by decide +kernel
theorem dX10_init_29 : decode cX10_init 29 = .ok (.if_icmp .ge 22, 3) := by decide +kernel
theorem dX10_init_32 : decode cX10_init 32 = .ok (.aload_n 0, 1) := by decide +kernel
theorem dX10_init_33 : decode cX10_init 33 = .ok (.getfield 18, 3) := by decide +kernel
theorem dX10_init_36 : decode cX10_init 36 = .ok (.iload_n 1, 1) := by decide +kernel
theorem dX10_init_37 : decode cX10_init 37 = .ok (.new 16, 3) := by decide +kernel
theorem dX10_init_40 : decode cX10_init 40 = .ok (.dup, 1) := by decide +kernel
theorem dX10_init_41 : decode cX10_init 41 = .ok (.invokespecial 22, 3) := by decide +kernel
theorem dX10_init_44 : decode cX10_init 44 = .ok (.aastore, 1) := by decide +kernel
theorem dX10_init_45 : decode cX10_init 45 = .ok (.iinc 1 1, 3) := by decide +kernel
theorem dX10_init_48 : decode cX10_init 48 = .ok (.goto (-22), 3) := by decide +kernel
theorem dX10_init_51 : decode cX10_init 51 = .ok (.aload_n 0, 1) := by decide +kernel
theorem dX10_init_52 : decode cX10_init 52 = .ok (.new 16, 3) := by decide +kernel
theorem dX10_init_55 : decode cX10_init 55 = .ok (.dup, 1) := by decide +kernel
theorem dX10_init_56 : decode cX10_init 56 = .ok (.invokespecial 22, 3) := by decide +kernel
theorem dX10_init_59 : decode cX10_init 59 = .ok (.putfield 23, 3) := by decide +kernel
theorem dX10_init_62 : decode cX10_init 62 = .ok (.aload_n 0, 1) := by decide +kernel
theorem dX10_init_63 : decode cX10_init 63 = .ok (.new 27, 3) := by decide +kernel
theorem dX10_init_66 : decode cX10_init 66 = .ok (.dup, 1) := by decide +kernel
theorem dX10_init_67 : decode cX10_init 67 = .ok (.invokespecial 29, 3) := by decide +kernel
theorem dX10_init_70 : decode cX10_init 70 = .ok (.putfield 30, 3) := by decide +kernel
theorem dX10_init_73 : decode cX10_init 73 = .ok (.aload_n 0, 1) := by decide +kernel
theorem dX10_init_74 : decode cX10_init 74 = .ok (.new 34, 3) := by decide +kernel
theorem dX10_init_77 : decode cX10_init 77 = .ok (.dup, 1) := by decide +kernel
theorem dX10_init_78 : decode cX10_init 78 = .ok (.invokespecial 36, 3) := by decide +kernel
theorem dX10_init_81 : decode cX10_init 81 = .ok (.putfield 37, 3) := by decide +kernel
theorem dX10_init_84 : decode cX10_init 84 = .ok (.aload_n 0, 1) := by decide +kernel
theorem dX10_init_85 : decode cX10_init 85 = .ok (.new 41, 3) := by decide +kernel
theorem dX10_init_88 : decode cX10_init 88 = .ok (.dup, 1) := by decide +kernel
theorem dX10_init_89 : decode cX10_init 89 = .ok (.invokespecial 43, 3) := by decide +kernel
theorem dX10_init_92 : decode cX10_init 92 = .ok (.putfield 44, 3) := by decide +kernel
theorem dX10_init_95 : decode cX10_init 95 = .ok (.aload_n 0, 1) := by decide +kernel
theorem dX10_init_96 : decode cX10_init 96 = .ok (.bipush 8, 2) := by decide +kernel
theorem dX10_init_98 : decode cX10_init 98 = .ok (.newarray .int, 2) := by decide +kernel
theorem dX10_init_100 : decode cX10_init 100 = .ok (.putfield 48, 3) := by decide +kernel
theorem dX10_init_103 : decode cX10_init 103 = .ok (.aload_n 0, 1) := by decide +kernel
theorem dX10_init_104 : decode cX10_init 104 = .ok (.iconst 5, 1) := by decide +kernel
theorem dX10_init_105 : decode cX10_init 105 = .ok (.newarray .int, 2) := by decide +kernel
theorem dX10_init_107 : decode cX10_init 107 = .ok (.putfield 52, 3) := by decide +kernel
theorem dX10_init_110 : decode cX10_init 110 = .ok (.aload_n 0, 1) := by decide +kernel
theorem dX10_init_111 : decode cX10_init 111 = .ok (.iconst 5, 1) := by decide +kernel
theorem dX10_init_112 : decode cX10_init 112 = .ok (.newarray .int, 2) := by decide +kernel
theorem dX10_init_114 : decode cX10_init 114 = .ok (.putfield 55, 3) := by decide +kernel
theorem dX10_init_117 : decode cX10_init 117 = .ok (.aload_n 0, 1) := by decide +kernel
theorem dX10_init_118 : decode cX10_init 118 = .ok (.iconst 5, 1) := by decide +kernel
theorem dX10_init_119 : decode cX10_init 119 = .ok (.newarray .int, 2) := by decide +kernel
theorem dX10_init_121 : decode cX10_init 121 = .ok (.putfield 58, 3) := by decide +kernel
theorem dX10_init_124 : decode cX10_init 124 = .ok (.aload_n 0, 1) := by decide +kernel
theorem dX10_init_125 : decode cX10_init 125 = .ok (.new 61, 3) := by decide +kernel
theorem dX10_init_128 : decode cX10_init 128 = .ok (.dup, 1) := by decide +kernel
theorem dX10_init_129 : decode cX10_init 129 = .ok (.invokespecial 63, 3) := by decide +kernel
theorem dX10_init_132 : decode cX10_init 132 = .ok (.putfield 64, 3) := by decide +kernel
theorem dX10_init_135 : decode cX10_init 135 = .ok (.aload_n 0, 1) := by decide +kernel
theorem dX10_init_136 : decode cX10_init 136 = .ok (.new 68, 3) := by decide +kernel
theorem dX10_init_139 : decode cX10_init 139 = .ok (.dup, 1) := by decide +kernel
theorem dX10_init_140 : decode cX10_init 140 = .ok (.invokespecial 70, 3) := by decide +kernel
theorem dX10_init_143 : decode cX10_init 143 = .ok (.putfield 71, 3) := by decide +kernel
theorem dX10_init_146 : decode cX10_init 146 = .ok (.aload_n 0, 1) := by decide +kernel
theorem dX10_init_147 : decode cX10_init 147 = .ok (.bipush 6, 2) := by decide +kernel
theorem dX10_init_149 : decode cX10_init 149 = .ok (.anewarray 75, 3) := by decide +kernel
theorem dX10_init_152 : decode cX10_init 152 = .ok (.putfield 77, 3) := by decide +kernel
theorem dX10_init_155 : decode cX10_init 155 = .ok (.iconst 0, 1) := by decide +kernel
theorem dX10_init_156 : decode cX10_init 156 = .ok (.istore_n 1, 1) := by decide +kernel
theorem dX10_init_157 : decode cX10_init 157 = .ok (.iload_n 1, 1) := by decide +kernel
theorem dX10_init_158 : decode cX10_init 158 = .ok (.bipush 6, 2) := by decide +kernel
theorem dX10_init_160 : decode cX10_init 160 = .ok (.if_icmp .ge 22, 3) := by decide +kernel
theorem dX10_init_163 : decode cX10_init 163 = .ok (.aload_n 0, 1) := by decide +kernel
theorem dX10_init_164 : decode cX10_init 164 = .ok (.getfield 77, 3) := by decide +kernel
theorem dX10_init_167 : decode cX10_init 167 = .ok (.iload_n 1, 1) := by decide +kernel
theorem dX10_init_168 : decode cX10_init 168 = .ok (.new 75, 3) := by decide +kernel
theorem dX10_init_171 : decode cX10_init 171 = .ok (.dup, 1) := by decide +kernel
theorem dX10_init_172 : decode cX10_init 172 = .ok (.invokespecial 81, 3) := by decide +kernel
theorem dX10_init_175 : decode cX10_init 175 = .ok (.aastore, 1) := by decide +kernel
theorem dX10_init_176 : decode cX10_init 176 = .ok (.iinc 1 1, 3) := by decide +kernel
theorem dX10_init_179 : decode cX10_init 179 = .ok (.goto (-22), 3) := by decide +kernel
theorem dX10_init_182 : decode cX10_init 182 = .ok (.return_, 1) := by decide +kernel
theorem dX10_feed_0 : decode cX10_feed 0 = .ok (.iload_n 1, 1) := by decide +kernel
theorem dX10_feed_1 : decode cX10_feed 1 = .ok (.iconst 1, 1) := by decide +kernel
theorem dX10_feed_2 : decode cX10_feed 2 = .ok (.if_icmp .lt 8, 3) := by decide +kernel
theorem dX10_feed_5 : decode cX10_feed 5 = .ok (.iload_n 1, 1) := by decide +kernel
theorem dX10_feed_6 : decode cX10_feed 6 = .ok (.iconst 4, 1) := by decide +kernel
theorem dX10_feed_7 : decode cX10_feed 7 = .ok (.if_icmp .le 5, 3) := by decide +kernel
theorem dX10_feed_10 : decode cX10_feed 10 = .ok (.iconst (-1), 1) := by decide +kernel
theorem dX10_feed_11 : decode cX10_feed 11 = .ok (.ireturn, 1) := by decide +kernel
theorem dX10_feed_12 : decode cX10_feed 12 = .ok (.aload_n 0, 1) := by decide +kernel
theorem dX10_feed_13 : decode cX10_feed 13 = .ok (.getfield 10, 3) := by decide +kernel
theorem dX10_feed_16 : decode cX10_feed 16 = .ok (.iload_n 1, 1) := by decide +kernel
theorem dX10_feed_17 : decode cX10_feed 17 = .ok (.iload_n 2, 1) := by decide +kernel
theorem dX10_feed_18 : decode cX10_feed 18 = .ok (.invokevirtual 82, 3) := by decide +kernel
theorem dX10_feed_21 : decode cX10_feed 21 = .ok (.ifCond .eq 13, 3) := by decide +kernel
theorem dX10_feed_24 : decode cX10_feed 24 = .ok (.aload_n 0, 1) := by decide +kernel
theorem dX10_feed_25 : decode cX10_feed 25 = .ok (.getfield 10, 3) := by decide +kernel
theorem dX10_feed_28 : decode cX10_feed 28 = .ok (.invokevirtual 86, 3) := by decide +kernel
theorem dX10_feed_31 : decode cX10_feed 31 = .ok (.goto 5, 3) := by decide +kernel
theorem dX10_feed_34 : decode cX10_feed 34 = .ok (.bipush (-3), 2) := by decide +kernel
theorem dX10_feed_36 : decode cX10_feed 36 = .ok (.ireturn, 1) := by decide +kernel
theorem dX10_head_0 : decode cX10_head 0 = .ok (.aload_n 0, 1) := by decide +kernel
theorem dX10_head_1 : decode cX10_head 1 = .ok (.getfield 90, 3) := by decide +kernel
theorem dX10_head_4 : decode cX10_head 4 = .ok (.bipush 6, 2) := by decide +kernel
theorem dX10_head_6 : decode cX10_head 6 = .ok (.if_icmp .lt 6, 3) := by decide +kernel
theorem dX10_head_9 : decode cX10_head 9 = .ok (.bipush (-3), 2) := by decide +kernel
theorem dX10_head_11 : decode cX10_head 11 = .ok (.ireturn, 1) := by decide +kernel
theorem dX10_head_12 : decode cX10_head 12 = .ok (.aload_n 0, 1) := by decide +kernel
theorem dX10_head_13 : decode cX10_head 13 = .ok (.getfield 23, 3) := by decide +kernel
theorem dX10_head_16 : decode cX10_head 16 = .ok (.aload_n 0, 1) := by decide +kernel
theorem dX10_head_17 : decode cX10_head 17 = .ok (.getfield 10, 3) := by decide +kernel
theorem dX10_head_20 : decode cX10_head 20 = .ok (.invokevirtual 94, 3) := by decide +kernel
theorem dX10_head_23 : decode cX10_head 23 = .ok (.istore_n 1, 1) := by decide +kernel
theorem dX10_head_24 : decode cX10_head 24 = .ok (.aload_n 0, 1) := by decide +kernel
theorem dX10_head_25 : decode cX10_head 25 = .ok (.getfield 10, 3) := by decide +kernel
theorem dX10_head_28 : decode cX10_head 28 = .ok (.invokevirtual 98, 3) := by decide +kernel
theorem dX10_head_31 : decode cX10_head 31 = .ok (.iload_n 1, 1) := by decide +kernel
theorem dX10_head_32 : decode cX10_head 32 = .ok (.ifCond .lt 8, 3) := by decide +kernel
theorem dX10_head_35 : decode cX10_head 35 = .ok (.bipush (-100), 2) := by decide +kernel
theorem dX10_head_37 : decode cX10_head 37 = .ok (.iload_n 1, 1) := by decide +kernel
theorem dX10_head_38 : decode cX10_head 38 = .ok (.isub, 1) := by decide +kernel
theorem dX10_head_39 : decode cX10_head 39 = .ok (.ireturn, 1) := by decide +kernel
theorem dX10_head_40 : decode cX10_head 40 = .ok (.aload_n 0, 1) := by decide +kernel
theorem dX10_head_41 : decode cX10_head 41 = .ok (.getfield 18, 3) := by decide +kernel
theorem dX10_head_44 : decode cX10_head 44 = .ok (.aload_n 0, 1) := by decide +kernel
theorem dX10_head_45 : decode cX10_head 45 = .ok (.getfield 90, 3) := by decide +kernel
theorem dX10_head_48 : decode cX10_head 48 = .ok (.aaload, 1) := by decide +kernel
theorem dX10_head_49 : decode cX10_head 49 = .ok (.aload_n 0, 1) := by decide +kernel
theorem dX10_head_50 : decode cX10_head 50 = .ok (.getfield 23, 3) := by decide +kernel
theorem dX10_head_53 : decode cX10_head 53 = .ok (.invokevirtual 101, 3) := by decide +kernel
theorem dX10_head_56 : decode cX10_head 56 = .ok (.aload_n 0, 1) := by decide +kernel
theorem dX10_head_57 : decode cX10_head 57 = .ok (.dup, 1) := by decide +kernel
theorem dX10_head_58 : decode cX10_head 58 = .ok (.getfield 90, 3) := by decide +kernel
theorem dX10_head_61 : decode cX10_head 61 = .ok (.iconst 1, 1) := by decide +kernel
theorem dX10_head_62 : decode cX10_head 62 = .ok (.iadd, 1) := by decide +kernel
theorem dX10_head_63 : decode cX10_head 63 = .ok (.putfield 90, 3) := by decide +kernel
theorem dX10_head_66 : decode cX10_head 66 = .ok (.aload_n 0, 1) := by decide +kernel
theorem dX10_head_67 : decode cX10_head 67 = .ok (.getfield 90, 3) := by decide +kernel
theorem dX10_head_70 : decode cX10_head 70 = .ok (.iconst 1, 1) := by decide +kernel
theorem dX10_head_71 : decode cX10_head 71 = .ok (.isub, 1) := by decide +kernel
theorem dX10_head_72 : decode cX10_head 72 = .ok (.ireturn, 1) := by decide +kernel
theorem dX10_of_0 : decode cX10_of 0 = .ok (.aload_n 0, 1) := by decide +kernel
theorem dX10_of_1 : decode cX10_of 1 = .ok (.iload_n 1, 1) := by decide +kernel
theorem dX10_of_2 : decode cX10_of 2 = .ok (.invokevirtual 105, 3) := by decide +kernel
theorem dX10_of_5 : decode cX10_of 5 = .ok (.ifCond .eq 12, 3) := by decide +kernel
theorem dX10_of_8 : decode cX10_of 8 = .ok (.iload_n 2, 1) := by decide +kernel
theorem dX10_of_9 : decode cX10_of 9 = .ok (.ifCond .lt 8, 3) := by decide +kernel
theorem dX10_of_12 : decode cX10_of 12 = .ok (.iload_n 2, 1) := by decide +kernel
theorem dX10_of_13 : decode cX10_of 13 = .ok (.iconst 5, 1) := by decide +kernel
theorem dX10_of_14 : decode cX10_of 14 = .ok (.if_icmp .le 5, 3) := by decide +kernel
theorem dX10_of_17 : decode cX10_of 17 = .ok (.iconst (-1), 1) := by decide +kernel
theorem dX10_of_18 : decode cX10_of 18 = .ok (.ireturn, 1) := by decide +kernel
theorem dX10_of_19 : decode cX10_of 19 = .ok (.iload_n 2, 1) := by decide +kernel
theorem dX10_of_20 : decode cX10_of 20 = .ok (.iconst 5, 1) := by decide +kernel
theorem dX10_of_21 : decode cX10_of 21 = .ok (.if_icmp .ne 15, 3) := by decide +kernel
theorem dX10_of_24 : decode cX10_of 24 = .ok (.aload_n 0, 1) := by decide +kernel
theorem dX10_of_25 : decode cX10_of 25 = .ok (.getfield 18, 3) := by decide +kernel
theorem dX10_of_28 : decode cX10_of 28 = .ok (.iload_n 1, 1) := by decide +kernel
theorem dX10_of_29 : decode cX10_of 29 = .ok (.aaload, 1) := by decide +kernel
theorem dX10_of_30 : decode cX10_of 30 = .ok (.invokevirtual 109, 3) := by decide +kernel
theorem dX10_of_33 : decode cX10_of 33 = .ok (.goto 13, 3) := by decide +kernel
theorem dX10_of_36 : decode cX10_of 36 = .ok (.aload_n 0, 1) := by decide +kernel
theorem dX10_of_37 : decode cX10_of 37 = .ok (.getfield 18, 3) := by decide +kernel
theorem dX10_of_40 : decode cX10_of 40 = .ok (.iload_n 1, 1) := by decide +kernel
theorem dX10_of_41 : decode cX10_of 41 = .ok (.aaload, 1) := by decide +kernel
theorem dX10_of_42 : decode cX10_of 42 = .ok (.iload_n 2, 1) := by decide +kernel
theorem dX10_of_43 : decode cX10_of 43 = .ok (.invokevirtual 112, 3) := by decide +kernel
theorem dX10_of_46 : decode cX10_of 46 = .ok (.ireturn, 1) := by decide +kernel
theorem dX10_turn_0 : decode cX10_turn 0 = .ok (.aload_n 0, 1) := by decide +kernel
theorem dX10_turn_1 : decode cX10_turn 1 = .ok (.iload_n 1, 1) := by decide +kernel
theorem dX10_turn_2 : decode cX10_turn 2 = .ok (.invokevirtual 105, 3) := by decide +kernel
theorem dX10_turn_5 : decode cX10_turn 5 = .ok (.ifCond .eq 11, 3) := by decide +kernel
theorem dX10_turn_8 : decode cX10_turn 8 = .ok (.iload_n 2, 1) := by decide +kernel
theorem dX10_turn_9 : decode cX10_turn 9 = .ok (.iload_n 3, 1) := by decide +kernel
theorem dX10_turn_10 : decode cX10_turn 10 = .ok (.invokestatic 116, 3) := by decide +kernel
theorem dX10_turn_13 : decode cX10_turn 13 = .ok (.ifCond .ne 5, 3) := by decide +kernel
theorem dX10_turn_16 : decode cX10_turn 16 = .ok (.iconst (-1), 1) := by decide +kernel
theorem dX10_turn_17 : decode cX10_turn 17 = .ok (.ireturn, 1) := by decide +kernel
theorem dX10_turn_18 : decode cX10_turn 18 = .ok (.aload_n 0, 1) := by decide +kernel
theorem dX10_turn_19 : decode cX10_turn 19 = .ok (.getfield 18, 3) := by decide +kernel
theorem dX10_turn_22 : decode cX10_turn 22 = .ok (.iload_n 1, 1) := by decide +kernel
theorem dX10_turn_23 : decode cX10_turn 23 = .ok (.aaload, 1) := by decide +kernel
theorem dX10_turn_24 : decode cX10_turn 24 = .ok (.iload_n 2, 1) := by decide +kernel
theorem dX10_turn_25 : decode cX10_turn 25 = .ok (.invokevirtual 112, 3) := by decide +kernel
theorem dX10_turn_28 : decode cX10_turn 28 = .ok (.istore 4, 2) := by decide +kernel
theorem dX10_turn_30 : decode cX10_turn 30 = .ok (.iload 4, 2) := by decide +kernel
theorem dX10_turn_32 : decode cX10_turn 32 = .ok (.iload_n 3, 1) := by decide +kernel
theorem dX10_turn_33 : decode cX10_turn 33 = .ok (.if_icmp .eq 26, 3) := by decide +kernel
theorem dX10_turn_36 : decode cX10_turn 36 = .ok (.aload_n 0, 1) := by decide +kernel
theorem dX10_turn_37 : decode cX10_turn 37 = .ok (.getfield 64, 3) := by decide +kernel
theorem dX10_turn_40 : decode cX10_turn 40 = .ok (.iload_n 1, 1) := by decide +kernel
theorem dX10_turn_41 : decode cX10_turn 41 = .ok (.iload_n 2, 1) := by decide +kernel
theorem dX10_turn_42 : decode cX10_turn 42 = .ok (.iload 4, 2) := by decide +kernel
theorem dX10_turn_44 : decode cX10_turn 44 = .ok (.iload_n 3, 1) := by decide +kernel
theorem dX10_turn_45 : decode cX10_turn 45 = .ok (.invokevirtual 119, 3) := by decide +kernel
theorem dX10_turn_48 : decode cX10_turn 48 = .ok (.aload_n 0, 1) := by decide +kernel
theorem dX10_turn_49 : decode cX10_turn 49 = .ok (.getfield 18, 3) := by decide +kernel
theorem dX10_turn_52 : decode cX10_turn 52 = .ok (.iload_n 1, 1) := by decide +kernel
theorem dX10_turn_53 : decode cX10_turn 53 = .ok (.aaload, 1) := by decide +kernel
theorem dX10_turn_54 : decode cX10_turn 54 = .ok (.iload_n 2, 1) := by decide +kernel
theorem dX10_turn_55 : decode cX10_turn 55 = .ok (.iload_n 3, 1) := by decide +kernel
theorem dX10_turn_56 : decode cX10_turn 56 = .ok (.invokevirtual 123, 3) := by decide +kernel
theorem dX10_turn_59 : decode cX10_turn 59 = .ok (.iload 4, 2) := by decide +kernel
theorem dX10_turn_61 : decode cX10_turn 61 = .ok (.ireturn, 1) := by decide +kernel
theorem dX10_choice_0 : decode cX10_choice 0 = .ok (.aload_n 0, 1) := by decide +kernel
theorem dX10_choice_1 : decode cX10_choice 1 = .ok (.getfield 30, 3) := by decide +kernel
theorem dX10_choice_4 : decode cX10_choice 4 = .ok (.aload_n 0, 1) := by decide +kernel
theorem dX10_choice_5 : decode cX10_choice 5 = .ok (.getfield 10, 3) := by decide +kernel
theorem dX10_choice_8 : decode cX10_choice 8 = .ok (.invokevirtual 127, 3) := by decide +kernel
theorem dX10_choice_11 : decode cX10_choice 11 = .ok (.istore_n 1, 1) := by decide +kernel
theorem dX10_choice_12 : decode cX10_choice 12 = .ok (.aload_n 0, 1) := by decide +kernel
theorem dX10_choice_13 : decode cX10_choice 13 = .ok (.getfield 10, 3) := by decide +kernel
theorem dX10_choice_16 : decode cX10_choice 16 = .ok (.invokevirtual 98, 3) := by decide +kernel
theorem dX10_choice_19 : decode cX10_choice 19 = .ok (.iload_n 1, 1) := by decide +kernel
theorem dX10_choice_20 : decode cX10_choice 20 = .ok (.ifCond .lt 10, 3) := by decide +kernel
theorem dX10_choice_23 : decode cX10_choice 23 = .ok (.bipush (-100), 2) := by decide +kernel
theorem dX10_choice_25 : decode cX10_choice 25 = .ok (.iload_n 1, 1) := by decide +kernel
theorem dX10_choice_26 : decode cX10_choice 26 = .ok (.isub, 1) := by decide +kernel
theorem dX10_choice_27 : decode cX10_choice 27 = .ok (.goto 4, 3) := by decide +kernel
theorem dX10_choice_30 : decode cX10_choice 30 = .ok (.iconst 1, 1) := by decide +kernel
theorem dX10_choice_31 : decode cX10_choice 31 = .ok (.ireturn, 1) := by decide +kernel
theorem dX10_way_0 : decode cX10_way 0 = .ok (.aload_n 0, 1) := by decide +kernel
theorem dX10_way_1 : decode cX10_way 1 = .ok (.iload_n 1, 1) := by decide +kernel
theorem dX10_way_2 : decode cX10_way 2 = .ok (.invokevirtual 128, 3) := by decide +kernel
theorem dX10_way_5 : decode cX10_way 5 = .ok (.ifCond .eq 19, 3) := by decide +kernel
theorem dX10_way_8 : decode cX10_way 8 = .ok (.iload_n 2, 1) := by decide +kernel
theorem dX10_way_9 : decode cX10_way 9 = .ok (.invokestatic 131, 3) := by decide +kernel
theorem dX10_way_12 : decode cX10_way 12 = .ok (.ifCond .eq 12, 3) := by decide +kernel
theorem dX10_way_15 : decode cX10_way 15 = .ok (.iload_n 3, 1) := by decide +kernel
theorem dX10_way_16 : decode cX10_way 16 = .ok (.ifCond .lt 8, 3) := by decide +kernel
theorem dX10_way_19 : decode cX10_way 19 = .ok (.iload_n 3, 1) := by decide +kernel
theorem dX10_way_20 : decode cX10_way 20 = .ok (.iconst 2, 1) := by decide +kernel
theorem dX10_way_21 : decode cX10_way 21 = .ok (.if_icmp .le 5, 3) := by decide +kernel
theorem dX10_way_24 : decode cX10_way 24 = .ok (.iconst (-1), 1) := by decide +kernel
theorem dX10_way_25 : decode cX10_way 25 = .ok (.ireturn, 1) := by decide +kernel
theorem dX10_way_26 : decode cX10_way 26 = .ok (.aload_n 0, 1) := by decide +kernel
theorem dX10_way_27 : decode cX10_way 27 = .ok (.getfield 37, 3) := by decide +kernel
theorem dX10_way_30 : decode cX10_way 30 = .ok (.aload_n 0, 1) := by decide +kernel
theorem dX10_way_31 : decode cX10_way 31 = .ok (.getfield 18, 3) := by decide +kernel
theorem dX10_way_34 : decode cX10_way 34 = .ok (.iload_n 1, 1) := by decide +kernel
theorem dX10_way_35 : decode cX10_way 35 = .ok (.bipush 10, 2) := by decide +kernel
theorem dX10_way_37 : decode cX10_way 37 = .ok (.idiv, 1) := by decide +kernel
theorem dX10_way_38 : decode cX10_way 38 = .ok (.aaload, 1) := by decide +kernel
theorem dX10_way_39 : decode cX10_way 39 = .ok (.iload_n 1, 1) := by decide +kernel
theorem dX10_way_40 : decode cX10_way 40 = .ok (.bipush 10, 2) := by decide +kernel
theorem dX10_way_42 : decode cX10_way 42 = .ok (.irem, 1) := by decide +kernel
theorem dX10_way_43 : decode cX10_way 43 = .ok (.iload_n 2, 1) := by decide +kernel
theorem dX10_way_44 : decode cX10_way 44 = .ok (.invokevirtual 134, 3) := by decide +kernel
theorem dX10_way_47 : decode cX10_way 47 = .ok (.ifCond .ne 6, 3) := by decide +kernel
theorem dX10_way_50 : decode cX10_way 50 = .ok (.bipush (-2), 2) := by decide +kernel
theorem dX10_way_52 : decode cX10_way 52 = .ok (.ireturn, 1) := by decide +kernel
theorem dX10_way_53 : decode cX10_way 53 = .ok (.iload_n 3, 1) := by decide +kernel
theorem dX10_way_54 : decode cX10_way 54 = .ok (.ifCond .ne 11, 3) := by decide +kernel
theorem dX10_way_57 : decode cX10_way 57 = .ok (.aload_n 0, 1) := by decide +kernel
theorem dX10_way_58 : decode cX10_way 58 = .ok (.getfield 37, 3) := by decide +kernel
theorem dX10_way_61 : decode cX10_way 61 = .ok (.invokevirtual 138, 3) := by decide +kernel
theorem dX10_way_64 : decode cX10_way 64 = .ok (.ireturn, 1) := by decide +kernel
theorem dX10_way_65 : decode cX10_way 65 = .ok (.iload_n 3, 1) := by decide +kernel
theorem dX10_way_66 : decode cX10_way 66 = .ok (.iconst 1, 1) := by decide +kernel
theorem dX10_way_67 : decode cX10_way 67 = .ok (.if_icmp .ne 13, 3) := by decide +kernel
theorem dX10_way_70 : decode cX10_way 70 = .ok (.aload_n 0, 1) := by decide +kernel
theorem dX10_way_71 : decode cX10_way 71 = .ok (.getfield 37, 3) := by decide +kernel
theorem dX10_way_74 : decode cX10_way 74 = .ok (.invokevirtual 141, 3) := by decide +kernel
theorem dX10_way_77 : decode cX10_way 77 = .ok (.goto 10, 3) := by decide +kernel
theorem dX10_way_80 : decode cX10_way 80 = .ok (.aload_n 0, 1) := by decide +kernel
theorem dX10_way_81 : decode cX10_way 81 = .ok (.getfield 37, 3) := by decide +kernel
theorem dX10_way_84 : decode cX10_way 84 = .ok (.invokevirtual 144, 3) := by decide +kernel
theorem dX10_way_87 : decode cX10_way 87 = .ok (.ireturn, 1) := by decide +kernel
theorem dX10_step_0 : decode cX10_step 0 = .ok (.aload_n 0, 1) := by decide +kernel
theorem dX10_step_1 : decode cX10_step 1 = .ok (.iload_n 1, 1) := by decide +kernel
theorem dX10_step_2 : decode cX10_step 2 = .ok (.invokevirtual 128, 3) := by decide +kernel
theorem dX10_step_5 : decode cX10_step 5 = .ok (.ifCond .eq 21, 3) := by decide +kernel
theorem dX10_step_8 : decode cX10_step 8 = .ok (.iload_n 2, 1) := by decide +kernel
theorem dX10_step_9 : decode cX10_step 9 = .ok (.invokestatic 131, 3) := by decide +kernel
theorem dX10_step_12 : decode cX10_step 12 = .ok (.ifCond .eq 14, 3) := by decide +kernel
theorem dX10_step_15 : decode cX10_step 15 = .ok (.iload 4, 2) := by decide +kernel
theorem dX10_step_17 : decode cX10_step 17 = .ok (.ifCond .lt 9, 3) := by decide +kernel
theorem dX10_step_20 : decode cX10_step 20 = .ok (.iload 4, 2) := by decide +kernel
theorem dX10_step_22 : decode cX10_step 22 = .ok (.iconst 3, 1) := by decide +kernel
theorem dX10_step_23 : decode cX10_step 23 = .ok (.if_icmp .le 6, 3) := by decide +kernel
theorem dX10_step_26 : decode cX10_step 26 = .ok (.ldc 147, 2) := by decide +kernel
theorem dX10_step_28 : decode cX10_step 28 = .ok (.ireturn, 1) := by decide +kernel
theorem dX10_step_29 : decode cX10_step 29 = .ok (.aload_n 0, 1) := by decide +kernel
theorem dX10_step_30 : decode cX10_step 30 = .ok (.getfield 37, 3) := by decide +kernel
theorem dX10_step_33 : decode cX10_step 33 = .ok (.aload_n 0, 1) := by decide +kernel
theorem dX10_step_34 : decode cX10_step 34 = .ok (.getfield 18, 3) := by decide +kernel
theorem dX10_step_37 : decode cX10_step 37 = .ok (.iload_n 1, 1) := by decide +kernel
theorem dX10_step_38 : decode cX10_step 38 = .ok (.bipush 10, 2) := by decide +kernel
theorem dX10_step_40 : decode cX10_step 40 = .ok (.idiv, 1) := by decide +kernel
theorem dX10_step_41 : decode cX10_step 41 = .ok (.aaload, 1) := by decide +kernel
theorem dX10_step_42 : decode cX10_step 42 = .ok (.iload_n 1, 1) := by decide +kernel
theorem dX10_step_43 : decode cX10_step 43 = .ok (.bipush 10, 2) := by decide +kernel
theorem dX10_step_45 : decode cX10_step 45 = .ok (.irem, 1) := by decide +kernel
theorem dX10_step_46 : decode cX10_step 46 = .ok (.iload_n 2, 1) := by decide +kernel
theorem dX10_step_47 : decode cX10_step 47 = .ok (.invokevirtual 134, 3) := by decide +kernel
theorem dX10_step_50 : decode cX10_step 50 = .ok (.ifCond .eq 18, 3) := by decide +kernel
theorem dX10_step_53 : decode cX10_step 53 = .ok (.iload_n 3, 1) := by decide +kernel
theorem dX10_step_54 : decode cX10_step 54 = .ok (.ifCond .lt 14, 3) := by decide +kernel
theorem dX10_step_57 : decode cX10_step 57 = .ok (.iload_n 3, 1) := by decide +kernel
theorem dX10_step_58 : decode cX10_step 58 = .ok (.aload_n 0, 1) := by decide +kernel
theorem dX10_step_59 : decode cX10_step 59 = .ok (.getfield 37, 3) := by decide +kernel
theorem dX10_step_62 : decode cX10_step 62 = .ok (.invokevirtual 144, 3) := by decide +kernel
theorem dX10_step_65 : decode cX10_step 65 = .ok (.if_icmp .lt 6, 3) := by decide +kernel
theorem dX10_step_68 : decode cX10_step 68 = .ok (.ldc 147, 2) := by decide +kernel
theorem dX10_step_70 : decode cX10_step 70 = .ok (.ireturn, 1) := by decide +kernel
theorem dX10_step_71 : decode cX10_step 71 = .ok (.aload_n 0, 1) := by decide +kernel
theorem dX10_step_72 : decode cX10_step 72 = .ok (.getfield 37, 3) := by decide +kernel
theorem dX10_step_75 : decode cX10_step 75 = .ok (.iload_n 3, 1) := by decide +kernel
theorem dX10_step_76 : decode cX10_step 76 = .ok (.iload 4, 2) := by decide +kernel
theorem dX10_step_78 : decode cX10_step 78 = .ok (.invokevirtual 148, 3) := by decide +kernel
theorem dX10_step_81 : decode cX10_step 81 = .ok (.ireturn, 1) := by decide +kernel
theorem dX10_chosen_0 : decode cX10_chosen 0 = .ok (.aload_n 0, 1) := by decide +kernel
theorem dX10_chosen_1 : decode cX10_chosen 1 = .ok (.iload_n 1, 1) := by decide +kernel
theorem dX10_chosen_2 : decode cX10_chosen 2 = .ok (.invokevirtual 105, 3) := by decide +kernel
theorem dX10_chosen_5 : decode cX10_chosen 5 = .ok (.ifCond .eq 10, 3) := by decide +kernel
theorem dX10_chosen_8 : decode cX10_chosen 8 = .ok (.iload_n 2, 1) := by decide +kernel
theorem dX10_chosen_9 : decode cX10_chosen 9 = .ok (.invokestatic 131, 3) := by decide +kernel
theorem dX10_chosen_12 : decode cX10_chosen 12 = .ok (.ifCond .ne 5, 3) := by decide +kernel
theorem dX10_chosen_15 : decode cX10_chosen 15 = .ok (.iconst (-1), 1) := by decide +kernel
theorem dX10_chosen_16 : decode cX10_chosen 16 = .ok (.ireturn, 1) := by decide +kernel
theorem dX10_chosen_17 : decode cX10_chosen 17 = .ok (.aload_n 0, 1) := by decide +kernel
theorem dX10_chosen_18 : decode cX10_chosen 18 = .ok (.aload_n 0, 1) := by decide +kernel
theorem dX10_chosen_19 : decode cX10_chosen 19 = .ok (.getfield 18, 3) := by decide +kernel
theorem dX10_chosen_22 : decode cX10_chosen 22 = .ok (.iload_n 1, 1) := by decide +kernel
theorem dX10_chosen_23 : decode cX10_chosen 23 = .ok (.aaload, 1) := by decide +kernel
theorem dX10_chosen_24 : decode cX10_chosen 24 = .ok (.iload_n 2, 1) := by decide +kernel
theorem dX10_chosen_25 : decode cX10_chosen 25 = .ok (.invokevirtual 151, 3) := by decide +kernel
theorem dX10_chosen_28 : decode cX10_chosen 28 = .ok (.ireturn, 1) := by decide +kernel
theorem dX10_answer_0 : decode cX10_answer 0 = .ok (.aload_n 0, 1) := by decide +kernel
theorem dX10_answer_1 : decode cX10_answer 1 = .ok (.iload_n 1, 1) := by decide +kernel
theorem dX10_answer_2 : decode cX10_answer 2 = .ok (.invokevirtual 128, 3) := by decide +kernel
theorem dX10_answer_5 : decode cX10_answer 5 = .ok (.ifCond .eq 10, 3) := by decide +kernel
theorem dX10_answer_8 : decode cX10_answer 8 = .ok (.iload_n 2, 1) := by decide +kernel
theorem dX10_answer_9 : decode cX10_answer 9 = .ok (.invokestatic 131, 3) := by decide +kernel
theorem dX10_answer_12 : decode cX10_answer 12 = .ok (.ifCond .ne 6, 3) := by decide +kernel
theorem dX10_answer_15 : decode cX10_answer 15 = .ok (.ldc 147, 2) := by decide +kernel
theorem dX10_answer_17 : decode cX10_answer 17 = .ok (.ireturn, 1) := by decide +kernel
theorem dX10_answer_18 : decode cX10_answer 18 = .ok (.aload_n 0, 1) := by decide +kernel
theorem dX10_answer_19 : decode cX10_answer 19 = .ok (.getfield 18, 3) := by decide +kernel
theorem dX10_answer_22 : decode cX10_answer 22 = .ok (.iload_n 1, 1) := by decide +kernel
theorem dX10_answer_23 : decode cX10_answer 23 = .ok (.bipush 10, 2) := by decide +kernel
theorem dX10_answer_25 : decode cX10_answer 25 = .ok (.idiv, 1) := by decide +kernel
theorem dX10_answer_26 : decode cX10_answer 26 = .ok (.aaload, 1) := by decide +kernel
theorem dX10_answer_27 : decode cX10_answer 27 = .ok (.astore 4, 2) := by decide +kernel
theorem dX10_answer_29 : decode cX10_answer 29 = .ok (.aload_n 0, 1) := by decide +kernel
theorem dX10_answer_30 : decode cX10_answer 30 = .ok (.getfield 37, 3) := by decide +kernel
theorem dX10_answer_33 : decode cX10_answer 33 = .ok (.aload 4, 2) := by decide +kernel
theorem dX10_answer_35 : decode cX10_answer 35 = .ok (.iload_n 1, 1) := by decide +kernel
theorem dX10_answer_36 : decode cX10_answer 36 = .ok (.bipush 10, 2) := by decide +kernel
theorem dX10_answer_38 : decode cX10_answer 38 = .ok (.irem, 1) := by decide +kernel
theorem dX10_answer_39 : decode cX10_answer 39 = .ok (.iload_n 2, 1) := by decide +kernel
theorem dX10_answer_40 : decode cX10_answer 40 = .ok (.invokevirtual 134, 3) := by decide +kernel
theorem dX10_answer_43 : decode cX10_answer 43 = .ok (.ifCond .ne 6, 3) := by decide +kernel
theorem dX10_answer_46 : decode cX10_answer 46 = .ok (.ldc 147, 2) := by decide +kernel
theorem dX10_answer_48 : decode cX10_answer 48 = .ok (.ireturn, 1) := by decide +kernel
theorem dX10_answer_49 : decode cX10_answer 49 = .ok (.iload_n 2, 1) := by decide +kernel
theorem dX10_answer_50 : decode cX10_answer 50 = .ok (.invokestatic 155, 3) := by decide +kernel
theorem dX10_answer_53 : decode cX10_answer 53 = .ok (.aload_n 0, 1) := by decide +kernel
theorem dX10_answer_54 : decode cX10_answer 54 = .ok (.getfield 37, 3) := by decide +kernel
theorem dX10_answer_57 : decode cX10_answer 57 = .ok (.iload_n 3, 1) := by decide +kernel
theorem dX10_answer_58 : decode cX10_answer 58 = .ok (.aload 4, 2) := by decide +kernel
theorem dX10_answer_60 : decode cX10_answer 60 = .ok (.invokevirtual 158, 3) := by decide +kernel
theorem dX10_answer_63 : decode cX10_answer 63 = .ok (.invokevirtual 161, 3) := by decide +kernel
theorem dX10_answer_66 : decode cX10_answer 66 = .ok (.iadd, 1) := by decide +kernel
theorem dX10_answer_67 : decode cX10_answer 67 = .ok (.ireturn, 1) := by decide +kernel
theorem dX10_quickest_0 : decode cX10_quickest 0 = .ok (.aload_n 0, 1) := by decide +kernel
theorem dX10_quickest_1 : decode cX10_quickest 1 = .ok (.iload_n 1, 1) := by decide +kernel
theorem dX10_quickest_2 : decode cX10_quickest 2 = .ok (.invokevirtual 105, 3) := by decide +kernel
theorem dX10_quickest_5 : decode cX10_quickest 5 = .ok (.ifCond .eq 21, 3) := by decide +kernel
theorem dX10_quickest_8 : decode cX10_quickest 8 = .ok (.iload_n 2, 1) := by decide +kernel
theorem dX10_quickest_9 : decode cX10_quickest 9 = .ok (.invokestatic 131, 3) := by decide +kernel
theorem dX10_quickest_12 : decode cX10_quickest 12 = .ok (.ifCond .eq 14, 3) := by decide +kernel
theorem dX10_quickest_15 : decode cX10_quickest 15 = .ok (.iload_n 3, 1) := by decide +kernel
theorem dX10_quickest_16 : decode cX10_quickest 16 = .ok (.iconst 1, 1) := by decide +kernel
theorem dX10_quickest_17 : decode cX10_quickest 17 = .ok (.if_icmp .lt 9, 3) := by decide +kernel
theorem dX10_quickest_20 : decode cX10_quickest 20 = .ok (.iload_n 3, 1) := by decide +kernel
theorem dX10_quickest_21 : decode cX10_quickest 21 = .ok (.bipush 99, 2) := by decide +kernel
theorem dX10_quickest_23 : decode cX10_quickest 23 = .ok (.if_icmp .le 5, 3) := by decide +kernel
theorem dX10_quickest_26 : decode cX10_quickest 26 = .ok (.iconst (-1), 1) := by decide +kernel
theorem dX10_quickest_27 : decode cX10_quickest 27 = .ok (.ireturn, 1) := by decide +kernel
theorem dX10_quickest_28 : decode cX10_quickest 28 = .ok (.bipush (-2), 2) := by decide +kernel
theorem dX10_quickest_30 : decode cX10_quickest 30 = .ok (.istore 4, 2) := by decide +kernel
theorem dX10_quickest_32 : decode cX10_quickest 32 = .ok (.iconst 0, 1) := by decide +kernel
theorem dX10_quickest_33 : decode cX10_quickest 33 = .ok (.istore 5, 2) := by decide +kernel
theorem dX10_quickest_35 : decode cX10_quickest 35 = .ok (.iconst 0, 1) := by decide +kernel
theorem dX10_quickest_36 : decode cX10_quickest 36 = .ok (.istore 6, 2) := by decide +kernel
theorem dX10_quickest_38 : decode cX10_quickest 38 = .ok (.iload 6, 2) := by decide +kernel
theorem dX10_quickest_40 : decode cX10_quickest 40 = .ok (.bipush 7, 2) := by decide +kernel
theorem dX10_quickest_42 : decode cX10_quickest 42 = .ok (.if_icmp .ge 71, 3) := by decide +kernel
theorem dX10_quickest_45 : decode cX10_quickest 45 = .ok (.aload_n 0, 1) := by decide +kernel
theorem dX10_quickest_46 : decode cX10_quickest 46 = .ok (.getfield 37, 3) := by decide +kernel
theorem dX10_quickest_49 : decode cX10_quickest 49 = .ok (.aload_n 0, 1) := by decide +kernel
theorem dX10_quickest_50 : decode cX10_quickest 50 = .ok (.getfield 18, 3) := by decide +kernel
theorem dX10_quickest_53 : decode cX10_quickest 53 = .ok (.iload_n 1, 1) := by decide +kernel
theorem dX10_quickest_54 : decode cX10_quickest 54 = .ok (.aaload, 1) := by decide +kernel
theorem dX10_quickest_55 : decode cX10_quickest 55 = .ok (.iload 6, 2) := by decide +kernel
theorem dX10_quickest_57 : decode cX10_quickest 57 = .ok (.iload_n 2, 1) := by decide +kernel
theorem dX10_quickest_58 : decode cX10_quickest 58 = .ok (.invokevirtual 134, 3) := by decide +kernel
theorem dX10_quickest_61 : decode cX10_quickest 61 = .ok (.ifCond .eq 46, 3) := by decide +kernel
theorem dX10_quickest_64 : decode cX10_quickest 64 = .ok (.aload_n 0, 1) := by decide +kernel
theorem dX10_quickest_65 : decode cX10_quickest 65 = .ok (.getfield 37, 3) := by decide +kernel
theorem dX10_quickest_68 : decode cX10_quickest 68 = .ok (.invokevirtual 141, 3) := by decide +kernel
theorem dX10_quickest_71 : decode cX10_quickest 71 = .ok (.iload_n 3, 1) := by decide +kernel
theorem dX10_quickest_72 : decode cX10_quickest 72 = .ok (.if_icmp .gt 35, 3) := by decide +kernel
theorem dX10_quickest_75 : decode cX10_quickest 75 = .ok (.iload 4, 2) := by decide +kernel
theorem dX10_quickest_77 : decode cX10_quickest 77 = .ok (.bipush (-2), 2) := by decide +kernel
theorem dX10_quickest_79 : decode cX10_quickest 79 = .ok (.if_icmp .eq 15, 3) := by decide +kernel
theorem dX10_quickest_82 : decode cX10_quickest 82 = .ok (.aload_n 0, 1) := by decide +kernel
theorem dX10_quickest_83 : decode cX10_quickest 83 = .ok (.getfield 37, 3) := by decide +kernel
theorem dX10_quickest_86 : decode cX10_quickest 86 = .ok (.invokevirtual 138, 3) := by decide +kernel
theorem dX10_quickest_89 : decode cX10_quickest 89 = .ok (.iload 5, 2) := by decide +kernel
theorem dX10_quickest_91 : decode cX10_quickest 91 = .ok (.if_icmp .ge 16, 3) := by decide +kernel
theorem dX10_quickest_94 : decode cX10_quickest 94 = .ok (.iload 6, 2) := by decide +kernel
theorem dX10_quickest_96 : decode cX10_quickest 96 = .ok (.istore 4, 2) := by decide +kernel
theorem dX10_quickest_98 : decode cX10_quickest 98 = .ok (.aload_n 0, 1) := by decide +kernel
theorem dX10_quickest_99 : decode cX10_quickest 99 = .ok (.getfield 37, 3) := by decide +kernel
theorem dX10_quickest_102 : decode cX10_quickest 102 = .ok (.invokevirtual 138, 3) := by decide +kernel
theorem dX10_quickest_105 : decode cX10_quickest 105 = .ok (.istore 5, 2) := by decide +kernel
theorem dX10_quickest_107 : decode cX10_quickest 107 = .ok (.iinc 6 1, 3) := by decide +kernel
theorem dX10_quickest_110 : decode cX10_quickest 110 = .ok (.goto (-72), 3) := by decide +kernel
theorem dX10_quickest_113 : decode cX10_quickest 113 = .ok (.iload 4, 2) := by decide +kernel
theorem dX10_quickest_115 : decode cX10_quickest 115 = .ok (.ireturn, 1) := by decide +kernel
theorem dX10_table_0 : decode cX10_table 0 = .ok (.aload_n 0, 1) := by decide +kernel
theorem dX10_table_1 : decode cX10_table 1 = .ok (.iload_n 1, 1) := by decide +kernel
theorem dX10_table_2 : decode cX10_table 2 = .ok (.invokevirtual 105, 3) := by decide +kernel
theorem dX10_table_5 : decode cX10_table 5 = .ok (.ifCond .eq 10, 3) := by decide +kernel
theorem dX10_table_8 : decode cX10_table 8 = .ok (.iload_n 2, 1) := by decide +kernel
theorem dX10_table_9 : decode cX10_table 9 = .ok (.invokestatic 131, 3) := by decide +kernel
theorem dX10_table_12 : decode cX10_table 12 = .ok (.ifCond .ne 5, 3) := by decide +kernel
theorem dX10_table_15 : decode cX10_table 15 = .ok (.iconst (-1), 1) := by decide +kernel
theorem dX10_table_16 : decode cX10_table 16 = .ok (.ireturn, 1) := by decide +kernel
theorem dX10_table_17 : decode cX10_table 17 = .ok (.aload_n 0, 1) := by decide +kernel
theorem dX10_table_18 : decode cX10_table 18 = .ok (.getfield 23, 3) := by decide +kernel
theorem dX10_table_21 : decode cX10_table 21 = .ok (.aload_n 0, 1) := by decide +kernel
theorem dX10_table_22 : decode cX10_table 22 = .ok (.getfield 18, 3) := by decide +kernel
theorem dX10_table_25 : decode cX10_table 25 = .ok (.iload_n 1, 1) := by decide +kernel
theorem dX10_table_26 : decode cX10_table 26 = .ok (.aaload, 1) := by decide +kernel
theorem dX10_table_27 : decode cX10_table 27 = .ok (.invokevirtual 101, 3) := by decide +kernel
theorem dX10_table_30 : decode cX10_table 30 = .ok (.bipush 9, 2) := by decide +kernel
theorem dX10_table_32 : decode cX10_table 32 = .ok (.istore 4, 2) := by decide +kernel
theorem dX10_table_34 : decode cX10_table 34 = .ok (.iload 4, 2) := by decide +kernel
theorem dX10_table_36 : decode cX10_table 36 = .ok (.bipush 99, 2) := by decide +kernel
theorem dX10_table_38 : decode cX10_table 38 = .ok (.if_icmp .gt 43, 3) := by decide +kernel
theorem dX10_table_41 : decode cX10_table 41 = .ok (.aload_n 0, 1) := by decide +kernel
theorem dX10_table_42 : decode cX10_table 42 = .ok (.getfield 23, 3) := by decide +kernel
theorem dX10_table_45 : decode cX10_table 45 = .ok (.iconst 3, 1) := by decide +kernel
theorem dX10_table_46 : decode cX10_table 46 = .ok (.iload 4, 2) := by decide +kernel
theorem dX10_table_48 : decode cX10_table 48 = .ok (.invokevirtual 123, 3) := by decide +kernel
theorem dX10_table_51 : decode cX10_table 51 = .ok (.aload_n 0, 1) := by decide +kernel
theorem dX10_table_52 : decode cX10_table 52 = .ok (.aload_n 0, 1) := by decide +kernel
theorem dX10_table_53 : decode cX10_table 53 = .ok (.getfield 23, 3) := by decide +kernel
theorem dX10_table_56 : decode cX10_table 56 = .ok (.iload_n 2, 1) := by decide +kernel
theorem dX10_table_57 : decode cX10_table 57 = .ok (.invokevirtual 151, 3) := by decide +kernel
theorem dX10_table_60 : decode cX10_table 60 = .ok (.pop, 1) := by decide +kernel
theorem dX10_table_61 : decode cX10_table 61 = .ok (.aload_n 0, 1) := by decide +kernel
theorem dX10_table_62 : decode cX10_table 62 = .ok (.getfield 37, 3) := by decide +kernel
theorem dX10_table_65 : decode cX10_table 65 = .ok (.invokevirtual 138, 3) := by decide +kernel
theorem dX10_table_68 : decode cX10_table 68 = .ok (.iload_n 3, 1) := by decide +kernel
theorem dX10_table_69 : decode cX10_table 69 = .ok (.if_icmp .gt 6, 3) := by decide +kernel
theorem dX10_table_72 : decode cX10_table 72 = .ok (.iload 4, 2) := by decide +kernel
theorem dX10_table_74 : decode cX10_table 74 = .ok (.ireturn, 1) := by decide +kernel
theorem dX10_table_75 : decode cX10_table 75 = .ok (.iinc 4 1, 3) := by decide +kernel
theorem dX10_table_78 : decode cX10_table 78 = .ok (.goto (-44), 3) := by decide +kernel
theorem dX10_table_81 : decode cX10_table 81 = .ok (.bipush (-2), 2) := by decide +kernel
theorem dX10_table_83 : decode cX10_table 83 = .ok (.ireturn, 1) := by decide +kernel
theorem dX10_see_0 : decode cX10_see 0 = .ok (.iload_n 1, 1) := by decide +kernel
theorem dX10_see_1 : decode cX10_see 1 = .ok (.invokestatic 131, 3) := by decide +kernel
theorem dX10_see_4 : decode cX10_see 4 = .ok (.ifCond .eq 11, 3) := by decide +kernel
theorem dX10_see_7 : decode cX10_see 7 = .ok (.iload_n 2, 1) := by decide +kernel
theorem dX10_see_8 : decode cX10_see 8 = .ok (.iload_n 3, 1) := by decide +kernel
theorem dX10_see_9 : decode cX10_see 9 = .ok (.invokestatic 164, 3) := by decide +kernel
theorem dX10_see_12 : decode cX10_see 12 = .ok (.ifCond .ne 5, 3) := by decide +kernel
theorem dX10_see_15 : decode cX10_see 15 = .ok (.iconst (-1), 1) := by decide +kernel
theorem dX10_see_16 : decode cX10_see 16 = .ok (.ireturn, 1) := by decide +kernel
theorem dX10_see_17 : decode cX10_see 17 = .ok (.aload_n 0, 1) := by decide +kernel
theorem dX10_see_18 : decode cX10_see 18 = .ok (.getfield 44, 3) := by decide +kernel
theorem dX10_see_21 : decode cX10_see 21 = .ok (.iload_n 1, 1) := by decide +kernel
theorem dX10_see_22 : decode cX10_see 22 = .ok (.iload_n 2, 1) := by decide +kernel
theorem dX10_see_23 : decode cX10_see 23 = .ok (.iload_n 3, 1) := by decide +kernel
theorem dX10_see_24 : decode cX10_see 24 = .ok (.invokevirtual 165, 3) := by decide +kernel
theorem dX10_see_27 : decode cX10_see 27 = .ok (.ifCond .eq 15, 3) := by decide +kernel
theorem dX10_see_30 : decode cX10_see 30 = .ok (.aload_n 0, 1) := by decide +kernel
theorem dX10_see_31 : decode cX10_see 31 = .ok (.getfield 44, 3) := by decide +kernel
theorem dX10_see_34 : decode cX10_see 34 = .ok (.invokevirtual 168, 3) := by decide +kernel
theorem dX10_see_37 : decode cX10_see 37 = .ok (.iconst 1, 1) := by decide +kernel
theorem dX10_see_38 : decode cX10_see 38 = .ok (.isub, 1) := by decide +kernel
theorem dX10_see_39 : decode cX10_see 39 = .ok (.goto 5, 3) := by decide +kernel
theorem dX10_see_42 : decode cX10_see 42 = .ok (.bipush (-3), 2) := by decide +kernel
theorem dX10_see_44 : decode cX10_see 44 = .ok (.ireturn, 1) := by decide +kernel
theorem dX10_asks_0 : decode cX10_asks 0 = .ok (.iload_n 1, 1) := by decide +kernel
theorem dX10_asks_1 : decode cX10_asks 1 = .ok (.invokestatic 169, 3) := by decide +kernel
theorem dX10_asks_4 : decode cX10_asks 4 = .ok (.ifCond .eq 14, 3) := by decide +kernel
theorem dX10_asks_7 : decode cX10_asks 7 = .ok (.iload_n 3, 1) := by decide +kernel
theorem dX10_asks_8 : decode cX10_asks 8 = .ok (.iconst 1, 1) := by decide +kernel
theorem dX10_asks_9 : decode cX10_asks 9 = .ok (.if_icmp .lt 9, 3) := by decide +kernel
theorem dX10_asks_12 : decode cX10_asks 12 = .ok (.iload_n 3, 1) := by decide +kernel
theorem dX10_asks_13 : decode cX10_asks 13 = .ok (.bipush 15, 2) := by decide +kernel
theorem dX10_asks_15 : decode cX10_asks 15 = .ok (.if_icmp .le 5, 3) := by decide +kernel
theorem dX10_asks_18 : decode cX10_asks 18 = .ok (.iconst (-1), 1) := by decide +kernel
theorem dX10_asks_19 : decode cX10_asks 19 = .ok (.ireturn, 1) := by decide +kernel
theorem dX10_asks_20 : decode cX10_asks 20 = .ok (.aload_n 0, 1) := by decide +kernel
theorem dX10_asks_21 : decode cX10_asks 21 = .ok (.getfield 77, 3) := by decide +kernel
theorem dX10_asks_24 : decode cX10_asks 24 = .ok (.iload_n 1, 1) := by decide +kernel
theorem dX10_asks_25 : decode cX10_asks 25 = .ok (.aaload, 1) := by decide +kernel
theorem dX10_asks_26 : decode cX10_asks 26 = .ok (.astore 4, 2) := by decide +kernel
theorem dX10_asks_28 : decode cX10_asks 28 = .ok (.aload 4, 2) := by decide +kernel
theorem dX10_asks_30 : decode cX10_asks 30 = .ok (.invokevirtual 172, 3) := by decide +kernel
theorem dX10_asks_33 : decode cX10_asks 33 = .ok (.ifCond .eq 5, 3) := by decide +kernel
theorem dX10_asks_36 : decode cX10_asks 36 = .ok (.iconst 0, 1) := by decide +kernel
theorem dX10_asks_37 : decode cX10_asks 37 = .ok (.ireturn, 1) := by decide +kernel
theorem dX10_asks_38 : decode cX10_asks 38 = .ok (.aload 4, 2) := by decide +kernel
theorem dX10_asks_40 : decode cX10_asks 40 = .ok (.invokevirtual 176, 3) := by decide +kernel
theorem dX10_asks_43 : decode cX10_asks 43 = .ok (.ifCond .ne 6, 3) := by decide +kernel
theorem dX10_asks_46 : decode cX10_asks 46 = .ok (.bipush (-12), 2) := by decide +kernel
theorem dX10_asks_48 : decode cX10_asks 48 = .ok (.ireturn, 1) := by decide +kernel
theorem dX10_asks_49 : decode cX10_asks 49 = .ok (.iconst 0, 1) := by decide +kernel
theorem dX10_asks_50 : decode cX10_asks 50 = .ok (.istore 5, 2) := by decide +kernel
theorem dX10_asks_52 : decode cX10_asks 52 = .ok (.iload 5, 2) := by decide +kernel
theorem dX10_asks_54 : decode cX10_asks 54 = .ok (.iload_n 3, 1) := by decide +kernel
theorem dX10_asks_55 : decode cX10_asks 55 = .ok (.if_icmp .ge 31, 3) := by decide +kernel
theorem dX10_asks_58 : decode cX10_asks 58 = .ok (.aload_n 0, 1) := by decide +kernel
theorem dX10_asks_59 : decode cX10_asks 59 = .ok (.aload 4, 2) := by decide +kernel
theorem dX10_asks_61 : decode cX10_asks 61 = .ok (.iload_n 2, 1) := by decide +kernel
theorem dX10_asks_62 : decode cX10_asks 62 = .ok (.i2l, 1) := by decide +kernel
theorem dX10_asks_63 : decode cX10_asks 63 = .ok (.ldc2_w 179, 3) := by decide +kernel
theorem dX10_asks_66 : decode cX10_asks 66 = .ok (.iload 5, 2) := by decide +kernel
theorem dX10_asks_68 : decode cX10_asks 68 = .ok (.i2l, 1) := by decide +kernel
theorem dX10_asks_69 : decode cX10_asks 69 = .ok (.lmul, 1) := by decide +kernel
theorem dX10_asks_70 : decode cX10_asks 70 = .ok (.ladd, 1) := by decide +kernel
theorem dX10_asks_71 : decode cX10_asks 71 = .ok (.invokevirtual 181, 3) := by decide +kernel
theorem dX10_asks_74 : decode cX10_asks 74 = .ok (.ifCond .ne 6, 3) := by decide +kernel
theorem dX10_asks_77 : decode cX10_asks 77 = .ok (.iload 5, 2) := by decide +kernel
theorem dX10_asks_79 : decode cX10_asks 79 = .ok (.ireturn, 1) := by decide +kernel
theorem dX10_asks_80 : decode cX10_asks 80 = .ok (.iinc 5 1, 3) := by decide +kernel
theorem dX10_asks_83 : decode cX10_asks 83 = .ok (.goto (-31), 3) := by decide +kernel
theorem dX10_asks_86 : decode cX10_asks 86 = .ok (.iload_n 3, 1) := by decide +kernel
theorem dX10_asks_87 : decode cX10_asks 87 = .ok (.ireturn, 1) := by decide +kernel
theorem dX10_seen_0 : decode cX10_seen 0 = .ok (.aload_n 0, 1) := by decide +kernel
theorem dX10_seen_1 : decode cX10_seen 1 = .ok (.getfield 44, 3) := by decide +kernel
theorem dX10_seen_4 : decode cX10_seen 4 = .ok (.iload_n 1, 1) := by decide +kernel
theorem dX10_seen_5 : decode cX10_seen 5 = .ok (.invokevirtual 185, 3) := by decide +kernel
theorem dX10_seen_8 : decode cX10_seen 8 = .ok (.ifCond .ne 6, 3) := by decide +kernel
theorem dX10_seen_11 : decode cX10_seen 11 = .ok (.ldc 147, 2) := by decide +kernel
theorem dX10_seen_13 : decode cX10_seen 13 = .ok (.ireturn, 1) := by decide +kernel
theorem dX10_seen_14 : decode cX10_seen 14 = .ok (.iload_n 2, 1) := by decide +kernel
theorem dX10_seen_15 : decode cX10_seen 15 = .ok (.tableswitch 70 0 3 #[29, 42, 55, 64], 29) := by decide +kernel
theorem dX10_seen_44 : decode cX10_seen 44 = .ok (.aload_n 0, 1) := by decide +kernel
theorem dX10_seen_45 : decode cX10_seen 45 = .ok (.getfield 44, 3) := by decide +kernel
theorem dX10_seen_48 : decode cX10_seen 48 = .ok (.iload_n 1, 1) := by decide +kernel
theorem dX10_seen_49 : decode cX10_seen 49 = .ok (.invokevirtual 188, 3) := by decide +kernel
theorem dX10_seen_52 : decode cX10_seen 52 = .ok (.sipush 10000, 3) := by decide +kernel
theorem dX10_seen_55 : decode cX10_seen 55 = .ok (.idiv, 1) := by decide +kernel
theorem dX10_seen_56 : decode cX10_seen 56 = .ok (.ireturn, 1) := by decide +kernel
theorem dX10_seen_57 : decode cX10_seen 57 = .ok (.aload_n 0, 1) := by decide +kernel
theorem dX10_seen_58 : decode cX10_seen 58 = .ok (.getfield 44, 3) := by decide +kernel
theorem dX10_seen_61 : decode cX10_seen 61 = .ok (.iload_n 1, 1) := by decide +kernel
theorem dX10_seen_62 : decode cX10_seen 62 = .ok (.invokevirtual 188, 3) := by decide +kernel
theorem dX10_seen_65 : decode cX10_seen 65 = .ok (.sipush 10000, 3) := by decide +kernel
theorem dX10_seen_68 : decode cX10_seen 68 = .ok (.irem, 1) := by decide +kernel
theorem dX10_seen_69 : decode cX10_seen 69 = .ok (.ireturn, 1) := by decide +kernel
theorem dX10_seen_70 : decode cX10_seen 70 = .ok (.aload_n 0, 1) := by decide +kernel
theorem dX10_seen_71 : decode cX10_seen 71 = .ok (.getfield 44, 3) := by decide +kernel
theorem dX10_seen_74 : decode cX10_seen 74 = .ok (.iload_n 1, 1) := by decide +kernel
theorem dX10_seen_75 : decode cX10_seen 75 = .ok (.invokevirtual 191, 3) := by decide +kernel
theorem dX10_seen_78 : decode cX10_seen 78 = .ok (.ireturn, 1) := by decide +kernel
theorem dX10_seen_79 : decode cX10_seen 79 = .ok (.aload_n 0, 1) := by decide +kernel
theorem dX10_seen_80 : decode cX10_seen 80 = .ok (.iload_n 1, 1) := by decide +kernel
theorem dX10_seen_81 : decode cX10_seen 81 = .ok (.invokevirtual 194, 3) := by decide +kernel
theorem dX10_seen_84 : decode cX10_seen 84 = .ok (.ireturn, 1) := by decide +kernel
theorem dX10_seen_85 : decode cX10_seen 85 = .ok (.ldc 147, 2) := by decide +kernel
theorem dX10_seen_87 : decode cX10_seen 87 = .ok (.ireturn, 1) := by decide +kernel
theorem dX10_fits_0 : decode cX10_fits 0 = .ok (.aload_n 0, 1) := by decide +kernel
theorem dX10_fits_1 : decode cX10_fits 1 = .ok (.iload_n 1, 1) := by decide +kernel
theorem dX10_fits_2 : decode cX10_fits 2 = .ok (.invokevirtual 105, 3) := by decide +kernel
theorem dX10_fits_5 : decode cX10_fits 5 = .ok (.ifCond .eq 14, 3) := by decide +kernel
theorem dX10_fits_8 : decode cX10_fits 8 = .ok (.iload_n 2, 1) := by decide +kernel
theorem dX10_fits_9 : decode cX10_fits 9 = .ok (.ifCond .lt 10, 3) := by decide +kernel
theorem dX10_fits_12 : decode cX10_fits 12 = .ok (.iload_n 2, 1) := by decide +kernel
theorem dX10_fits_13 : decode cX10_fits 13 = .ok (.sipush 9999, 3) := by decide +kernel
theorem dX10_fits_16 : decode cX10_fits 16 = .ok (.if_icmp .le 5, 3) := by decide +kernel
theorem dX10_fits_19 : decode cX10_fits 19 = .ok (.iconst (-1), 1) := by decide +kernel
theorem dX10_fits_20 : decode cX10_fits 20 = .ok (.ireturn, 1) := by decide +kernel
theorem dX10_fits_21 : decode cX10_fits 21 = .ok (.aload_n 0, 1) := by decide +kernel
theorem dX10_fits_22 : decode cX10_fits 22 = .ok (.getfield 44, 3) := by decide +kernel
theorem dX10_fits_25 : decode cX10_fits 25 = .ok (.invokevirtual 168, 3) := by decide +kernel
theorem dX10_fits_28 : decode cX10_fits 28 = .ok (.ifCond .ne 6, 3) := by decide +kernel
theorem dX10_fits_31 : decode cX10_fits 31 = .ok (.bipush (-5), 2) := by decide +kernel
theorem dX10_fits_33 : decode cX10_fits 33 = .ok (.ireturn, 1) := by decide +kernel
theorem dX10_fits_34 : decode cX10_fits 34 = .ok (.iconst 0, 1) := by decide +kernel
theorem dX10_fits_35 : decode cX10_fits 35 = .ok (.istore_n 3, 1) := by decide +kernel
theorem dX10_fits_36 : decode cX10_fits 36 = .ok (.iconst 0, 1) := by decide +kernel
theorem dX10_fits_37 : decode cX10_fits 37 = .ok (.istore 4, 2) := by decide +kernel
theorem dX10_fits_39 : decode cX10_fits 39 = .ok (.iload 4, 2) := by decide +kernel
theorem dX10_fits_41 : decode cX10_fits 41 = .ok (.bipush 7, 2) := by decide +kernel
theorem dX10_fits_43 : decode cX10_fits 43 = .ok (.if_icmp .ge 32, 3) := by decide +kernel
theorem dX10_fits_46 : decode cX10_fits 46 = .ok (.aload_n 0, 1) := by decide +kernel
theorem dX10_fits_47 : decode cX10_fits 47 = .ok (.aload_n 0, 1) := by decide +kernel
theorem dX10_fits_48 : decode cX10_fits 48 = .ok (.getfield 18, 3) := by decide +kernel
theorem dX10_fits_51 : decode cX10_fits 51 = .ok (.iload_n 1, 1) := by decide +kernel
theorem dX10_fits_52 : decode cX10_fits 52 = .ok (.aaload, 1) := by decide +kernel
theorem dX10_fits_53 : decode cX10_fits 53 = .ok (.iload 4, 2) := by decide +kernel
theorem dX10_fits_55 : decode cX10_fits 55 = .ok (.iload_n 2, 1) := by decide +kernel
theorem dX10_fits_56 : decode cX10_fits 56 = .ok (.invokevirtual 197, 3) := by decide +kernel
theorem dX10_fits_59 : decode cX10_fits 59 = .ok (.ifCond .eq 10, 3) := by decide +kernel
theorem dX10_fits_62 : decode cX10_fits 62 = .ok (.iload_n 3, 1) := by decide +kernel
theorem dX10_fits_63 : decode cX10_fits 63 = .ok (.iconst 1, 1) := by decide +kernel
theorem dX10_fits_64 : decode cX10_fits 64 = .ok (.iload 4, 2) := by decide +kernel
theorem dX10_fits_66 : decode cX10_fits 66 = .ok (.ishl, 1) := by decide +kernel
theorem dX10_fits_67 : decode cX10_fits 67 = .ok (.ior, 1) := by decide +kernel
theorem dX10_fits_68 : decode cX10_fits 68 = .ok (.istore_n 3, 1) := by decide +kernel
theorem dX10_fits_69 : decode cX10_fits 69 = .ok (.iinc 4 1, 3) := by decide +kernel
theorem dX10_fits_72 : decode cX10_fits 72 = .ok (.goto (-33), 3) := by decide +kernel
theorem dX10_fits_75 : decode cX10_fits 75 = .ok (.iload_n 3, 1) := by decide +kernel
theorem dX10_fits_76 : decode cX10_fits 76 = .ok (.ireturn, 1) := by decide +kernel
theorem dX10_best_0 : decode cX10_best 0 = .ok (.aload_n 0, 1) := by decide +kernel
theorem dX10_best_1 : decode cX10_best 1 = .ok (.iload_n 1, 1) := by decide +kernel
theorem dX10_best_2 : decode cX10_best 2 = .ok (.invokevirtual 105, 3) := by decide +kernel
theorem dX10_best_5 : decode cX10_best 5 = .ok (.ifCond .eq 12, 3) := by decide +kernel
theorem dX10_best_8 : decode cX10_best 8 = .ok (.iload_n 2, 1) := by decide +kernel
theorem dX10_best_9 : decode cX10_best 9 = .ok (.ifCond .lt 8, 3) := by decide +kernel
theorem dX10_best_12 : decode cX10_best 12 = .ok (.iload_n 2, 1) := by decide +kernel
theorem dX10_best_13 : decode cX10_best 13 = .ok (.iconst 1, 1) := by decide +kernel
theorem dX10_best_14 : decode cX10_best 14 = .ok (.if_icmp .le 5, 3) := by decide +kernel
theorem dX10_best_17 : decode cX10_best 17 = .ok (.iconst (-1), 1) := by decide +kernel
theorem dX10_best_18 : decode cX10_best 18 = .ok (.ireturn, 1) := by decide +kernel
theorem dX10_best_19 : decode cX10_best 19 = .ok (.aload_n 0, 1) := by decide +kernel
theorem dX10_best_20 : decode cX10_best 20 = .ok (.getfield 44, 3) := by decide +kernel
theorem dX10_best_23 : decode cX10_best 23 = .ok (.invokevirtual 168, 3) := by decide +kernel
theorem dX10_best_26 : decode cX10_best 26 = .ok (.ifCond .ne 6, 3) := by decide +kernel
theorem dX10_best_29 : decode cX10_best 29 = .ok (.bipush (-5), 2) := by decide +kernel
theorem dX10_best_31 : decode cX10_best 31 = .ok (.ireturn, 1) := by decide +kernel
theorem dX10_best_32 : decode cX10_best 32 = .ok (.bipush 7, 2) := by decide +kernel
theorem dX10_best_34 : decode cX10_best 34 = .ok (.istore_n 3, 1) := by decide +kernel
theorem dX10_best_35 : decode cX10_best 35 = .ok (.aload_n 0, 1) := by decide +kernel
theorem dX10_best_36 : decode cX10_best 36 = .ok (.aload_n 0, 1) := by decide +kernel
theorem dX10_best_37 : decode cX10_best 37 = .ok (.getfield 18, 3) := by decide +kernel
theorem dX10_best_40 : decode cX10_best 40 = .ok (.iload_n 1, 1) := by decide +kernel
theorem dX10_best_41 : decode cX10_best 41 = .ok (.aaload, 1) := by decide +kernel
theorem dX10_best_42 : decode cX10_best 42 = .ok (.bipush 7, 2) := by decide +kernel
theorem dX10_best_44 : decode cX10_best 44 = .ok (.invokevirtual 200, 3) := by decide +kernel
theorem dX10_best_47 : decode cX10_best 47 = .ok (.istore 4, 2) := by decide +kernel
theorem dX10_best_49 : decode cX10_best 49 = .ok (.bipush 6, 2) := by decide +kernel
theorem dX10_best_51 : decode cX10_best 51 = .ok (.istore 5, 2) := by decide +kernel
theorem dX10_best_53 : decode cX10_best 53 = .ok (.iload 5, 2) := by decide +kernel
theorem dX10_best_55 : decode cX10_best 55 = .ok (.ifCond .lt 44, 3) := by decide +kernel
theorem dX10_best_58 : decode cX10_best 58 = .ok (.aload_n 0, 1) := by decide +kernel
theorem dX10_best_59 : decode cX10_best 59 = .ok (.aload_n 0, 1) := by decide +kernel
theorem dX10_best_60 : decode cX10_best 60 = .ok (.getfield 18, 3) := by decide +kernel
theorem dX10_best_63 : decode cX10_best 63 = .ok (.iload_n 1, 1) := by decide +kernel
theorem dX10_best_64 : decode cX10_best 64 = .ok (.aaload, 1) := by decide +kernel
theorem dX10_best_65 : decode cX10_best 65 = .ok (.iload 5, 2) := by decide +kernel
theorem dX10_best_67 : decode cX10_best 67 = .ok (.invokevirtual 200, 3) := by decide +kernel
theorem dX10_best_70 : decode cX10_best 70 = .ok (.istore 6, 2) := by decide +kernel
theorem dX10_best_72 : decode cX10_best 72 = .ok (.iload 6, 2) := by decide +kernel
theorem dX10_best_74 : decode cX10_best 74 = .ok (.bipush (-2), 2) := by decide +kernel
theorem dX10_best_76 : decode cX10_best 76 = .ok (.if_icmp .eq 17, 3) := by decide +kernel
theorem dX10_best_79 : decode cX10_best 79 = .ok (.iload 6, 2) := by decide +kernel
theorem dX10_best_81 : decode cX10_best 81 = .ok (.iload 4, 2) := by decide +kernel
theorem dX10_best_83 : decode cX10_best 83 = .ok (.if_icmp .gt 10, 3) := by decide +kernel
theorem dX10_best_86 : decode cX10_best 86 = .ok (.iload 5, 2) := by decide +kernel
theorem dX10_best_88 : decode cX10_best 88 = .ok (.istore_n 3, 1) := by decide +kernel
theorem dX10_best_89 : decode cX10_best 89 = .ok (.iload 6, 2) := by decide +kernel
theorem dX10_best_91 : decode cX10_best 91 = .ok (.istore 4, 2) := by decide +kernel
theorem dX10_best_93 : decode cX10_best 93 = .ok (.iinc 5 (-1), 3) := by decide +kernel
theorem dX10_best_96 : decode cX10_best 96 = .ok (.goto (-43), 3) := by decide +kernel
theorem dX10_best_99 : decode cX10_best 99 = .ok (.iload_n 2, 1) := by decide +kernel
theorem dX10_best_100 : decode cX10_best 100 = .ok (.ifCond .ne 7, 3) := by decide +kernel
theorem dX10_best_103 : decode cX10_best 103 = .ok (.iload_n 3, 1) := by decide +kernel
theorem dX10_best_104 : decode cX10_best 104 = .ok (.goto 5, 3) := by decide +kernel
theorem dX10_best_107 : decode cX10_best 107 = .ok (.iload 4, 2) := by decide +kernel
theorem dX10_best_109 : decode cX10_best 109 = .ok (.ireturn, 1) := by decide +kernel
theorem dX10_slip_0 : decode cX10_slip 0 = .ok (.aload_n 0, 1) := by decide +kernel
theorem dX10_slip_1 : decode cX10_slip 1 = .ok (.iload_n 1, 1) := by decide +kernel
theorem dX10_slip_2 : decode cX10_slip 2 = .ok (.invokevirtual 128, 3) := by decide +kernel
theorem dX10_slip_5 : decode cX10_slip 5 = .ok (.ifCond .eq 23, 3) := by decide +kernel
theorem dX10_slip_8 : decode cX10_slip 8 = .ok (.aload_n 0, 1) := by decide +kernel
theorem dX10_slip_9 : decode cX10_slip 9 = .ok (.getfield 44, 3) := by decide +kernel
theorem dX10_slip_12 : decode cX10_slip 12 = .ok (.iload_n 2, 1) := by decide +kernel
theorem dX10_slip_13 : decode cX10_slip 13 = .ok (.invokevirtual 185, 3) := by decide +kernel
theorem dX10_slip_16 : decode cX10_slip 16 = .ok (.ifCond .eq 12, 3) := by decide +kernel
theorem dX10_slip_19 : decode cX10_slip 19 = .ok (.iload_n 3, 1) := by decide +kernel
theorem dX10_slip_20 : decode cX10_slip 20 = .ok (.ifCond .lt 8, 3) := by decide +kernel
theorem dX10_slip_23 : decode cX10_slip 23 = .ok (.iload_n 3, 1) := by decide +kernel
theorem dX10_slip_24 : decode cX10_slip 24 = .ok (.iconst 1, 1) := by decide +kernel
theorem dX10_slip_25 : decode cX10_slip 25 = .ok (.if_icmp .le 5, 3) := by decide +kernel
theorem dX10_slip_28 : decode cX10_slip 28 = .ok (.iconst (-1), 1) := by decide +kernel
theorem dX10_slip_29 : decode cX10_slip 29 = .ok (.ireturn, 1) := by decide +kernel
theorem dX10_slip_30 : decode cX10_slip 30 = .ok (.aload_n 0, 1) := by decide +kernel
theorem dX10_slip_31 : decode cX10_slip 31 = .ok (.iload_n 2, 1) := by decide +kernel
theorem dX10_slip_32 : decode cX10_slip 32 = .ok (.invokevirtual 194, 3) := by decide +kernel
theorem dX10_slip_35 : decode cX10_slip 35 = .ok (.istore 4, 2) := by decide +kernel
theorem dX10_slip_37 : decode cX10_slip 37 = .ok (.iload 4, 2) := by decide +kernel
theorem dX10_slip_39 : decode cX10_slip 39 = .ok (.ifCond .ne 5, 3) := by decide +kernel
theorem dX10_slip_42 : decode cX10_slip 42 = .ok (.iconst (-1), 1) := by decide +kernel
theorem dX10_slip_43 : decode cX10_slip 43 = .ok (.ireturn, 1) := by decide +kernel
theorem dX10_slip_44 : decode cX10_slip 44 = .ok (.aload_n 0, 1) := by decide +kernel
theorem dX10_slip_45 : decode cX10_slip 45 = .ok (.getfield 37, 3) := by decide +kernel
theorem dX10_slip_48 : decode cX10_slip 48 = .ok (.aload_n 0, 1) := by decide +kernel
theorem dX10_slip_49 : decode cX10_slip 49 = .ok (.getfield 18, 3) := by decide +kernel
theorem dX10_slip_52 : decode cX10_slip 52 = .ok (.iload_n 1, 1) := by decide +kernel
theorem dX10_slip_53 : decode cX10_slip 53 = .ok (.bipush 10, 2) := by decide +kernel
theorem dX10_slip_55 : decode cX10_slip 55 = .ok (.idiv, 1) := by decide +kernel
theorem dX10_slip_56 : decode cX10_slip 56 = .ok (.aaload, 1) := by decide +kernel
theorem dX10_slip_57 : decode cX10_slip 57 = .ok (.iload_n 1, 1) := by decide +kernel
theorem dX10_slip_58 : decode cX10_slip 58 = .ok (.bipush 10, 2) := by decide +kernel
theorem dX10_slip_60 : decode cX10_slip 60 = .ok (.irem, 1) := by decide +kernel
theorem dX10_slip_61 : decode cX10_slip 61 = .ok (.aload_n 0, 1) := by decide +kernel
theorem dX10_slip_62 : decode cX10_slip 62 = .ok (.getfield 44, 3) := by decide +kernel
theorem dX10_slip_65 : decode cX10_slip 65 = .ok (.iload_n 2, 1) := by decide +kernel
theorem dX10_slip_66 : decode cX10_slip 66 = .ok (.invokevirtual 188, 3) := by decide +kernel
theorem dX10_slip_69 : decode cX10_slip 69 = .ok (.invokevirtual 134, 3) := by decide +kernel
theorem dX10_slip_72 : decode cX10_slip 72 = .ok (.ifCond .ne 6, 3) := by decide +kernel
theorem dX10_slip_75 : decode cX10_slip 75 = .ok (.bipush (-2), 2) := by decide +kernel
theorem dX10_slip_77 : decode cX10_slip 77 = .ok (.ireturn, 1) := by decide +kernel
theorem dX10_slip_78 : decode cX10_slip 78 = .ok (.iload_n 3, 1) := by decide +kernel
theorem dX10_slip_79 : decode cX10_slip 79 = .ok (.ifCond .ne 15, 3) := by decide +kernel
theorem dX10_slip_82 : decode cX10_slip 82 = .ok (.aload_n 0, 1) := by decide +kernel
theorem dX10_slip_83 : decode cX10_slip 83 = .ok (.getfield 37, 3) := by decide +kernel
theorem dX10_slip_86 : decode cX10_slip 86 = .ok (.iload 4, 2) := by decide +kernel
theorem dX10_slip_88 : decode cX10_slip 88 = .ok (.invokevirtual 203, 3) := by decide +kernel
theorem dX10_slip_91 : decode cX10_slip 91 = .ok (.goto 12, 3) := by decide +kernel
theorem dX10_slip_94 : decode cX10_slip 94 = .ok (.aload_n 0, 1) := by decide +kernel
theorem dX10_slip_95 : decode cX10_slip 95 = .ok (.getfield 37, 3) := by decide +kernel
theorem dX10_slip_98 : decode cX10_slip 98 = .ok (.iload 4, 2) := by decide +kernel
theorem dX10_slip_100 : decode cX10_slip 100 = .ok (.invokevirtual 206, 3) := by decide +kernel
theorem dX10_slip_103 : decode cX10_slip 103 = .ok (.ireturn, 1) := by decide +kernel
theorem dX10_suits_0 : decode cX10_suits 0 = .ok (.aload_n 0, 1) := by decide +kernel
theorem dX10_suits_1 : decode cX10_suits 1 = .ok (.iload_n 1, 1) := by decide +kernel
theorem dX10_suits_2 : decode cX10_suits 2 = .ok (.invokevirtual 105, 3) := by decide +kernel
theorem dX10_suits_5 : decode cX10_suits 5 = .ok (.ifCond .ne 5, 3) := by decide +kernel
theorem dX10_suits_8 : decode cX10_suits 8 = .ok (.iconst (-1), 1) := by decide +kernel
theorem dX10_suits_9 : decode cX10_suits 9 = .ok (.ireturn, 1) := by decide +kernel
theorem dX10_suits_10 : decode cX10_suits 10 = .ok (.aload_n 0, 1) := by decide +kernel
theorem dX10_suits_11 : decode cX10_suits 11 = .ok (.getfield 44, 3) := by decide +kernel
theorem dX10_suits_14 : decode cX10_suits 14 = .ok (.invokevirtual 168, 3) := by decide +kernel
theorem dX10_suits_17 : decode cX10_suits 17 = .ok (.istore_n 2, 1) := by decide +kernel
theorem dX10_suits_18 : decode cX10_suits 18 = .ok (.iload_n 2, 1) := by decide +kernel
theorem dX10_suits_19 : decode cX10_suits 19 = .ok (.ifCond .ne 6, 3) := by decide +kernel
theorem dX10_suits_22 : decode cX10_suits 22 = .ok (.bipush (-5), 2) := by decide +kernel
theorem dX10_suits_24 : decode cX10_suits 24 = .ok (.ireturn, 1) := by decide +kernel
theorem dX10_suits_25 : decode cX10_suits 25 = .ok (.iconst 0, 1) := by decide +kernel
theorem dX10_suits_26 : decode cX10_suits 26 = .ok (.istore_n 3, 1) := by decide +kernel
theorem dX10_suits_27 : decode cX10_suits 27 = .ok (.iconst 0, 1) := by decide +kernel
theorem dX10_suits_28 : decode cX10_suits 28 = .ok (.istore 4, 2) := by decide +kernel
theorem dX10_suits_30 : decode cX10_suits 30 = .ok (.iload 4, 2) := by decide +kernel
theorem dX10_suits_32 : decode cX10_suits 32 = .ok (.iload_n 2, 1) := by decide +kernel
theorem dX10_suits_33 : decode cX10_suits 33 = .ok (.if_icmp .ge 79, 3) := by decide +kernel
theorem dX10_suits_36 : decode cX10_suits 36 = .ok (.aload_n 0, 1) := by decide +kernel
theorem dX10_suits_37 : decode cX10_suits 37 = .ok (.getfield 37, 3) := by decide +kernel
theorem dX10_suits_40 : decode cX10_suits 40 = .ok (.aload_n 0, 1) := by decide +kernel
theorem dX10_suits_41 : decode cX10_suits 41 = .ok (.getfield 18, 3) := by decide +kernel
theorem dX10_suits_44 : decode cX10_suits 44 = .ok (.iload_n 1, 1) := by decide +kernel
theorem dX10_suits_45 : decode cX10_suits 45 = .ok (.aaload, 1) := by decide +kernel
theorem dX10_suits_46 : decode cX10_suits 46 = .ok (.iconst 1, 1) := by decide +kernel
theorem dX10_suits_47 : decode cX10_suits 47 = .ok (.aload_n 0, 1) := by decide +kernel
theorem dX10_suits_48 : decode cX10_suits 48 = .ok (.getfield 44, 3) := by decide +kernel
theorem dX10_suits_51 : decode cX10_suits 51 = .ok (.iload 4, 2) := by decide +kernel
theorem dX10_suits_53 : decode cX10_suits 53 = .ok (.invokevirtual 188, 3) := by decide +kernel
theorem dX10_suits_56 : decode cX10_suits 56 = .ok (.invokevirtual 134, 3) := by decide +kernel
theorem dX10_suits_59 : decode cX10_suits 59 = .ok (.pop, 1) := by decide +kernel
theorem dX10_suits_60 : decode cX10_suits 60 = .ok (.aload_n 0, 1) := by decide +kernel
theorem dX10_suits_61 : decode cX10_suits 61 = .ok (.getfield 37, 3) := by decide +kernel
theorem dX10_suits_64 : decode cX10_suits 64 = .ok (.invokevirtual 138, 3) := by decide +kernel
theorem dX10_suits_67 : decode cX10_suits 67 = .ok (.iconst 2, 1) := by decide +kernel
theorem dX10_suits_68 : decode cX10_suits 68 = .ok (.idiv, 1) := by decide +kernel
theorem dX10_suits_69 : decode cX10_suits 69 = .ok (.istore 5, 2) := by decide +kernel
theorem dX10_suits_71 : decode cX10_suits 71 = .ok (.aload_n 0, 1) := by decide +kernel
theorem dX10_suits_72 : decode cX10_suits 72 = .ok (.aload_n 0, 1) := by decide +kernel
theorem dX10_suits_73 : decode cX10_suits 73 = .ok (.getfield 18, 3) := by decide +kernel
theorem dX10_suits_76 : decode cX10_suits 76 = .ok (.iload_n 1, 1) := by decide +kernel
theorem dX10_suits_77 : decode cX10_suits 77 = .ok (.aaload, 1) := by decide +kernel
theorem dX10_suits_78 : decode cX10_suits 78 = .ok (.aload_n 0, 1) := by decide +kernel
theorem dX10_suits_79 : decode cX10_suits 79 = .ok (.getfield 44, 3) := by decide +kernel
theorem dX10_suits_82 : decode cX10_suits 82 = .ok (.iload 4, 2) := by decide +kernel
theorem dX10_suits_84 : decode cX10_suits 84 = .ok (.invokevirtual 188, 3) := by decide +kernel
theorem dX10_suits_87 : decode cX10_suits 87 = .ok (.invokevirtual 151, 3) := by decide +kernel
theorem dX10_suits_90 : decode cX10_suits 90 = .ok (.pop, 1) := by decide +kernel
theorem dX10_suits_91 : decode cX10_suits 91 = .ok (.aload_n 0, 1) := by decide +kernel
theorem dX10_suits_92 : decode cX10_suits 92 = .ok (.getfield 37, 3) := by decide +kernel
theorem dX10_suits_95 : decode cX10_suits 95 = .ok (.invokevirtual 138, 3) := by decide +kernel
theorem dX10_suits_98 : decode cX10_suits 98 = .ok (.iload 5, 2) := by decide +kernel
theorem dX10_suits_100 : decode cX10_suits 100 = .ok (.if_icmp .gt 6, 3) := by decide +kernel
theorem dX10_suits_103 : decode cX10_suits 103 = .ok (.iinc 3 1, 3) := by decide +kernel
theorem dX10_suits_106 : decode cX10_suits 106 = .ok (.iinc 4 1, 3) := by decide +kernel
theorem dX10_suits_109 : decode cX10_suits 109 = .ok (.goto (-79), 3) := by decide +kernel
theorem dX10_suits_112 : decode cX10_suits 112 = .ok (.iload_n 3, 1) := by decide +kernel
theorem dX10_suits_113 : decode cX10_suits 113 = .ok (.sipush 1000, 3) := by decide +kernel
theorem dX10_suits_116 : decode cX10_suits 116 = .ok (.imul, 1) := by decide +kernel
theorem dX10_suits_117 : decode cX10_suits 117 = .ok (.iload_n 2, 1) := by decide +kernel
theorem dX10_suits_118 : decode cX10_suits 118 = .ok (.idiv, 1) := by decide +kernel
theorem dX10_suits_119 : decode cX10_suits 119 = .ok (.ireturn, 1) := by decide +kernel
theorem dX10_tell_0 : decode cX10_tell 0 = .ok (.iload_n 1, 1) := by decide +kernel
theorem dX10_tell_1 : decode cX10_tell 1 = .ok (.invokestatic 131, 3) := by decide +kernel
theorem dX10_tell_4 : decode cX10_tell 4 = .ok (.ifCond .ne 5, 3) := by decide +kernel
theorem dX10_tell_7 : decode cX10_tell 7 = .ok (.iconst (-1), 1) := by decide +kernel
theorem dX10_tell_8 : decode cX10_tell 8 = .ok (.ireturn, 1) := by decide +kernel
theorem dX10_tell_9 : decode cX10_tell 9 = .ok (.aload_n 0, 1) := by decide +kernel
theorem dX10_tell_10 : decode cX10_tell 10 = .ok (.getfield 209, 3) := by decide +kernel
theorem dX10_tell_13 : decode cX10_tell 13 = .ok (.bipush 8, 2) := by decide +kernel
theorem dX10_tell_15 : decode cX10_tell 15 = .ok (.if_icmp .lt 6, 3) := by decide +kernel
theorem dX10_tell_18 : decode cX10_tell 18 = .ok (.bipush (-3), 2) := by decide +kernel
theorem dX10_tell_20 : decode cX10_tell 20 = .ok (.ireturn, 1) := by decide +kernel
theorem dX10_tell_21 : decode cX10_tell 21 = .ok (.aload_n 0, 1) := by decide +kernel
theorem dX10_tell_22 : decode cX10_tell 22 = .ok (.getfield 48, 3) := by decide +kernel
theorem dX10_tell_25 : decode cX10_tell 25 = .ok (.aload_n 0, 1) := by decide +kernel
theorem dX10_tell_26 : decode cX10_tell 26 = .ok (.getfield 209, 3) := by decide +kernel
theorem dX10_tell_29 : decode cX10_tell 29 = .ok (.iload_n 1, 1) := by decide +kernel
theorem dX10_tell_30 : decode cX10_tell 30 = .ok (.iastore, 1) := by decide +kernel
theorem dX10_tell_31 : decode cX10_tell 31 = .ok (.aload_n 0, 1) := by decide +kernel
theorem dX10_tell_32 : decode cX10_tell 32 = .ok (.dup, 1) := by decide +kernel
theorem dX10_tell_33 : decode cX10_tell 33 = .ok (.getfield 209, 3) := by decide +kernel
theorem dX10_tell_36 : decode cX10_tell 36 = .ok (.iconst 1, 1) := by decide +kernel
theorem dX10_tell_37 : decode cX10_tell 37 = .ok (.iadd, 1) := by decide +kernel
theorem dX10_tell_38 : decode cX10_tell 38 = .ok (.putfield 209, 3) := by decide +kernel
theorem dX10_tell_41 : decode cX10_tell 41 = .ok (.aload_n 0, 1) := by decide +kernel
theorem dX10_tell_42 : decode cX10_tell 42 = .ok (.getfield 209, 3) := by decide +kernel
theorem dX10_tell_45 : decode cX10_tell 45 = .ok (.ireturn, 1) := by decide +kernel
theorem dX10_untell_0 : decode cX10_untell 0 = .ok (.aload_n 0, 1) := by decide +kernel
theorem dX10_untell_1 : decode cX10_untell 1 = .ok (.getfield 209, 3) := by decide +kernel
theorem dX10_untell_4 : decode cX10_untell 4 = .ok (.istore_n 1, 1) := by decide +kernel
theorem dX10_untell_5 : decode cX10_untell 5 = .ok (.aload_n 0, 1) := by decide +kernel
theorem dX10_untell_6 : decode cX10_untell 6 = .ok (.iconst 0, 1) := by decide +kernel
theorem dX10_untell_7 : decode cX10_untell 7 = .ok (.putfield 209, 3) := by decide +kernel
theorem dX10_untell_10 : decode cX10_untell 10 = .ok (.iload_n 1, 1) := by decide +kernel
theorem dX10_untell_11 : decode cX10_untell 11 = .ok (.ireturn, 1) := by decide +kernel
theorem dX10_parts_0 : decode cX10_parts 0 = .ok (.aload_n 0, 1) := by decide +kernel
theorem dX10_parts_1 : decode cX10_parts 1 = .ok (.iload_n 1, 1) := by decide +kernel
theorem dX10_parts_2 : decode cX10_parts 2 = .ok (.invokevirtual 105, 3) := by decide +kernel
theorem dX10_parts_5 : decode cX10_parts 5 = .ok (.ifCond .eq 23, 3) := by decide +kernel
theorem dX10_parts_8 : decode cX10_parts 8 = .ok (.iload_n 2, 1) := by decide +kernel
theorem dX10_parts_9 : decode cX10_parts 9 = .ok (.ifCond .lt 19, 3) := by decide +kernel
theorem dX10_parts_12 : decode cX10_parts 12 = .ok (.iload_n 2, 1) := by decide +kernel
theorem dX10_parts_13 : decode cX10_parts 13 = .ok (.sipush 128, 3) := by decide +kernel
theorem dX10_parts_16 : decode cX10_parts 16 = .ok (.if_icmp .ge 12, 3) := by decide +kernel
theorem dX10_parts_19 : decode cX10_parts 19 = .ok (.iload_n 3, 1) := by decide +kernel
theorem dX10_parts_20 : decode cX10_parts 20 = .ok (.ifCond .lt 8, 3) := by decide +kernel
theorem dX10_parts_23 : decode cX10_parts 23 = .ok (.iload_n 3, 1) := by decide +kernel
theorem dX10_parts_24 : decode cX10_parts 24 = .ok (.iconst 1, 1) := by decide +kernel
theorem dX10_parts_25 : decode cX10_parts 25 = .ok (.if_icmp .le 5, 3) := by decide +kernel
theorem dX10_parts_28 : decode cX10_parts 28 = .ok (.iconst (-1), 1) := by decide +kernel
theorem dX10_parts_29 : decode cX10_parts 29 = .ok (.ireturn, 1) := by decide +kernel
theorem dX10_parts_30 : decode cX10_parts 30 = .ok (.aload_n 0, 1) := by decide +kernel
theorem dX10_parts_31 : decode cX10_parts 31 = .ok (.getfield 209, 3) := by decide +kernel
theorem dX10_parts_34 : decode cX10_parts 34 = .ok (.ifCond .ne 6, 3) := by decide +kernel
theorem dX10_parts_37 : decode cX10_parts 37 = .ok (.bipush (-5), 2) := by decide +kernel
theorem dX10_parts_39 : decode cX10_parts 39 = .ok (.ireturn, 1) := by decide +kernel
theorem dX10_parts_40 : decode cX10_parts 40 = .ok (.bipush (-2), 2) := by decide +kernel
theorem dX10_parts_42 : decode cX10_parts 42 = .ok (.istore 4, 2) := by decide +kernel
theorem dX10_parts_44 : decode cX10_parts 44 = .ok (.bipush (-2), 2) := by decide +kernel
theorem dX10_parts_46 : decode cX10_parts 46 = .ok (.istore 5, 2) := by decide +kernel
theorem dX10_parts_48 : decode cX10_parts 48 = .ok (.iconst 0, 1) := by decide +kernel
theorem dX10_parts_49 : decode cX10_parts 49 = .ok (.istore 6, 2) := by decide +kernel
theorem dX10_parts_51 : decode cX10_parts 51 = .ok (.iload 6, 2) := by decide +kernel
theorem dX10_parts_53 : decode cX10_parts 53 = .ok (.aload_n 0, 1) := by decide +kernel
theorem dX10_parts_54 : decode cX10_parts 54 = .ok (.getfield 209, 3) := by decide +kernel
theorem dX10_parts_57 : decode cX10_parts 57 = .ok (.if_icmp .ge 44, 3) := by decide +kernel
theorem dX10_parts_60 : decode cX10_parts 60 = .ok (.aload_n 0, 1) := by decide +kernel
theorem dX10_parts_61 : decode cX10_parts 61 = .ok (.aload_n 0, 1) := by decide +kernel
theorem dX10_parts_62 : decode cX10_parts 62 = .ok (.getfield 18, 3) := by decide +kernel
theorem dX10_parts_65 : decode cX10_parts 65 = .ok (.iload_n 1, 1) := by decide +kernel
theorem dX10_parts_66 : decode cX10_parts 66 = .ok (.aaload, 1) := by decide +kernel
theorem dX10_parts_67 : decode cX10_parts 67 = .ok (.iload_n 2, 1) := by decide +kernel
theorem dX10_parts_68 : decode cX10_parts 68 = .ok (.aload_n 0, 1) := by decide +kernel
theorem dX10_parts_69 : decode cX10_parts 69 = .ok (.getfield 48, 3) := by decide +kernel
theorem dX10_parts_72 : decode cX10_parts 72 = .ok (.iload 6, 2) := by decide +kernel
theorem dX10_parts_74 : decode cX10_parts 74 = .ok (.iaload, 1) := by decide +kernel
theorem dX10_parts_75 : decode cX10_parts 75 = .ok (.invokevirtual 212, 3) := by decide +kernel
theorem dX10_parts_78 : decode cX10_parts 78 = .ok (.istore 7, 2) := by decide +kernel
theorem dX10_parts_80 : decode cX10_parts 80 = .ok (.iload 7, 2) := by decide +kernel
theorem dX10_parts_82 : decode cX10_parts 82 = .ok (.iload 5, 2) := by decide +kernel
theorem dX10_parts_84 : decode cX10_parts 84 = .ok (.if_icmp .le 11, 3) := by decide +kernel
theorem dX10_parts_87 : decode cX10_parts 87 = .ok (.iload 6, 2) := by decide +kernel
theorem dX10_parts_89 : decode cX10_parts 89 = .ok (.istore 4, 2) := by decide +kernel
theorem dX10_parts_91 : decode cX10_parts 91 = .ok (.iload 7, 2) := by decide +kernel
theorem dX10_parts_93 : decode cX10_parts 93 = .ok (.istore 5, 2) := by decide +kernel
theorem dX10_parts_95 : decode cX10_parts 95 = .ok (.iinc 6 1, 3) := by decide +kernel
theorem dX10_parts_98 : decode cX10_parts 98 = .ok (.goto (-47), 3) := by decide +kernel
theorem dX10_parts_101 : decode cX10_parts 101 = .ok (.iload_n 3, 1) := by decide +kernel
theorem dX10_parts_102 : decode cX10_parts 102 = .ok (.ifCond .ne 8, 3) := by decide +kernel
theorem dX10_parts_105 : decode cX10_parts 105 = .ok (.iload 4, 2) := by decide +kernel
theorem dX10_parts_107 : decode cX10_parts 107 = .ok (.goto 5, 3) := by decide +kernel
theorem dX10_parts_110 : decode cX10_parts 110 = .ok (.iload 5, 2) := by decide +kernel
theorem dX10_parts_112 : decode cX10_parts 112 = .ok (.ireturn, 1) := by decide +kernel
theorem dX10_ask_0 : decode cX10_ask 0 = .ok (.aload_n 0, 1) := by decide +kernel
theorem dX10_ask_1 : decode cX10_ask 1 = .ok (.iload_n 1, 1) := by decide +kernel
theorem dX10_ask_2 : decode cX10_ask 2 = .ok (.invokevirtual 105, 3) := by decide +kernel
theorem dX10_ask_5 : decode cX10_ask 5 = .ok (.ifCond .eq 10, 3) := by decide +kernel
theorem dX10_ask_8 : decode cX10_ask 8 = .ok (.iload_n 2, 1) := by decide +kernel
theorem dX10_ask_9 : decode cX10_ask 9 = .ok (.invokestatic 131, 3) := by decide +kernel
theorem dX10_ask_12 : decode cX10_ask 12 = .ok (.ifCond .ne 5, 3) := by decide +kernel
theorem dX10_ask_15 : decode cX10_ask 15 = .ok (.iconst (-1), 1) := by decide +kernel
theorem dX10_ask_16 : decode cX10_ask 16 = .ok (.ireturn, 1) := by decide +kernel
theorem dX10_ask_17 : decode cX10_ask 17 = .ok (.aload_n 0, 1) := by decide +kernel
theorem dX10_ask_18 : decode cX10_ask 18 = .ok (.getfield 18, 3) := by decide +kernel
theorem dX10_ask_21 : decode cX10_ask 21 = .ok (.iload_n 1, 1) := by decide +kernel
theorem dX10_ask_22 : decode cX10_ask 22 = .ok (.aaload, 1) := by decide +kernel
theorem dX10_ask_23 : decode cX10_ask 23 = .ok (.iload_n 2, 1) := by decide +kernel
theorem dX10_ask_24 : decode cX10_ask 24 = .ok (.invokevirtual 216, 3) := by decide +kernel
theorem dX10_ask_27 : decode cX10_ask 27 = .ok (.ireturn, 1) := by decide +kernel
theorem dX10_taught_0 : decode cX10_taught 0 = .ok (.aload_n 0, 1) := by decide +kernel
theorem dX10_taught_1 : decode cX10_taught 1 = .ok (.iload_n 1, 1) := by decide +kernel
theorem dX10_taught_2 : decode cX10_taught 2 = .ok (.invokevirtual 105, 3) := by decide +kernel
theorem dX10_taught_5 : decode cX10_taught 5 = .ok (.ifCond .eq 30, 3) := by decide +kernel
theorem dX10_taught_8 : decode cX10_taught 8 = .ok (.iload_n 2, 1) := by decide +kernel
theorem dX10_taught_9 : decode cX10_taught 9 = .ok (.iconst 1, 1) := by decide +kernel
theorem dX10_taught_10 : decode cX10_taught 10 = .ok (.if_icmp .lt 25, 3) := by decide +kernel
theorem dX10_taught_13 : decode cX10_taught 13 = .ok (.iload_n 2, 1) := by decide +kernel
theorem dX10_taught_14 : decode cX10_taught 14 = .ok (.bipush 50, 2) := by decide +kernel
theorem dX10_taught_16 : decode cX10_taught 16 = .ok (.if_icmp .gt 19, 3) := by decide +kernel
theorem dX10_taught_19 : decode cX10_taught 19 = .ok (.iload_n 3, 1) := by decide +kernel
theorem dX10_taught_20 : decode cX10_taught 20 = .ok (.ifCond .lt 15, 3) := by decide +kernel
theorem dX10_taught_23 : decode cX10_taught 23 = .ok (.iload_n 3, 1) := by decide +kernel
theorem dX10_taught_24 : decode cX10_taught 24 = .ok (.iconst 1, 1) := by decide +kernel
theorem dX10_taught_25 : decode cX10_taught 25 = .ok (.if_icmp .gt 10, 3) := by decide +kernel
theorem dX10_taught_28 : decode cX10_taught 28 = .ok (.aload_n 0, 1) := by decide +kernel
theorem dX10_taught_29 : decode cX10_taught 29 = .ok (.invokevirtual 219, 3) := by decide +kernel
theorem dX10_taught_32 : decode cX10_taught 32 = .ok (.ifCond .ne 5, 3) := by decide +kernel
theorem dX10_taught_35 : decode cX10_taught 35 = .ok (.iconst (-1), 1) := by decide +kernel
theorem dX10_taught_36 : decode cX10_taught 36 = .ok (.ireturn, 1) := by decide +kernel
theorem dX10_taught_37 : decode cX10_taught 37 = .ok (.aload_n 0, 1) := by decide +kernel
theorem dX10_taught_38 : decode cX10_taught 38 = .ok (.getfield 209, 3) := by decide +kernel
theorem dX10_taught_41 : decode cX10_taught 41 = .ok (.ifCond .ne 6, 3) := by decide +kernel
theorem dX10_taught_44 : decode cX10_taught 44 = .ok (.bipush (-5), 2) := by decide +kernel
theorem dX10_taught_46 : decode cX10_taught 46 = .ok (.ireturn, 1) := by decide +kernel
theorem dX10_taught_47 : decode cX10_taught 47 = .ok (.aload_n 0, 1) := by decide +kernel
theorem dX10_taught_48 : decode cX10_taught 48 = .ok (.getfield 23, 3) := by decide +kernel
theorem dX10_taught_51 : decode cX10_taught 51 = .ok (.aload_n 0, 1) := by decide +kernel
theorem dX10_taught_52 : decode cX10_taught 52 = .ok (.getfield 18, 3) := by decide +kernel
theorem dX10_taught_55 : decode cX10_taught 55 = .ok (.iload_n 1, 1) := by decide +kernel
theorem dX10_taught_56 : decode cX10_taught 56 = .ok (.aaload, 1) := by decide +kernel
theorem dX10_taught_57 : decode cX10_taught 57 = .ok (.invokevirtual 101, 3) := by decide +kernel
theorem dX10_taught_60 : decode cX10_taught 60 = .ok (.iconst 0, 1) := by decide +kernel
theorem dX10_taught_61 : decode cX10_taught 61 = .ok (.istore 4, 2) := by decide +kernel
theorem dX10_taught_63 : decode cX10_taught 63 = .ok (.iconst 0, 1) := by decide +kernel
theorem dX10_taught_64 : decode cX10_taught 64 = .ok (.istore 5, 2) := by decide +kernel
theorem dX10_taught_66 : decode cX10_taught 66 = .ok (.iload 5, 2) := by decide +kernel
theorem dX10_taught_68 : decode cX10_taught 68 = .ok (.iload_n 2, 1) := by decide +kernel
theorem dX10_taught_69 : decode cX10_taught 69 = .ok (.if_icmp .ge 56, 3) := by decide +kernel
theorem dX10_taught_72 : decode cX10_taught 72 = .ok (.aload_n 0, 1) := by decide +kernel
theorem dX10_taught_73 : decode cX10_taught 73 = .ok (.getfield 48, 3) := by decide +kernel
theorem dX10_taught_76 : decode cX10_taught 76 = .ok (.iload 5, 2) := by decide +kernel
theorem dX10_taught_78 : decode cX10_taught 78 = .ok (.aload_n 0, 1) := by decide +kernel
theorem dX10_taught_79 : decode cX10_taught 79 = .ok (.getfield 209, 3) := by decide +kernel
theorem dX10_taught_82 : decode cX10_taught 82 = .ok (.irem, 1) := by decide +kernel
theorem dX10_taught_83 : decode cX10_taught 83 = .ok (.iaload, 1) := by decide +kernel
theorem dX10_taught_84 : decode cX10_taught 84 = .ok (.istore 6, 2) := by decide +kernel
theorem dX10_taught_86 : decode cX10_taught 86 = .ok (.aload_n 0, 1) := by decide +kernel
theorem dX10_taught_87 : decode cX10_taught 87 = .ok (.aload_n 0, 1) := by decide +kernel
theorem dX10_taught_88 : decode cX10_taught 88 = .ok (.getfield 23, 3) := by decide +kernel
theorem dX10_taught_91 : decode cX10_taught 91 = .ok (.iload 6, 2) := by decide +kernel
theorem dX10_taught_93 : decode cX10_taught 93 = .ok (.invokevirtual 151, 3) := by decide +kernel
theorem dX10_taught_96 : decode cX10_taught 96 = .ok (.pop, 1) := by decide +kernel
theorem dX10_taught_97 : decode cX10_taught 97 = .ok (.iload 4, 2) := by decide +kernel
theorem dX10_taught_99 : decode cX10_taught 99 = .ok (.aload_n 0, 1) := by decide +kernel
theorem dX10_taught_100 : decode cX10_taught 100 = .ok (.getfield 37, 3) := by decide +kernel
theorem dX10_taught_103 : decode cX10_taught 103 = .ok (.invokevirtual 138, 3) := by decide +kernel
theorem dX10_taught_106 : decode cX10_taught 106 = .ok (.iadd, 1) := by decide +kernel
theorem dX10_taught_107 : decode cX10_taught 107 = .ok (.istore 4, 2) := by decide +kernel
theorem dX10_taught_109 : decode cX10_taught 109 = .ok (.aload_n 0, 1) := by decide +kernel
theorem dX10_taught_110 : decode cX10_taught 110 = .ok (.getfield 23, 3) := by decide +kernel
theorem dX10_taught_113 : decode cX10_taught 113 = .ok (.iload 6, 2) := by decide +kernel
theorem dX10_taught_115 : decode cX10_taught 115 = .ok (.invokevirtual 216, 3) := by decide +kernel
theorem dX10_taught_118 : decode cX10_taught 118 = .ok (.pop, 1) := by decide +kernel
theorem dX10_taught_119 : decode cX10_taught 119 = .ok (.iinc 5 1, 3) := by decide +kernel
theorem dX10_taught_122 : decode cX10_taught 122 = .ok (.goto (-56), 3) := by decide +kernel
theorem dX10_taught_125 : decode cX10_taught 125 = .ok (.iload_n 3, 1) := by decide +kernel
theorem dX10_taught_126 : decode cX10_taught 126 = .ok (.ifCond .ne 8, 3) := by decide +kernel
theorem dX10_taught_129 : decode cX10_taught 129 = .ok (.iload 4, 2) := by decide +kernel
theorem dX10_taught_131 : decode cX10_taught 131 = .ok (.goto 10, 3) := by decide +kernel
theorem dX10_taught_134 : decode cX10_taught 134 = .ok (.aload_n 0, 1) := by decide +kernel
theorem dX10_taught_135 : decode cX10_taught 135 = .ok (.getfield 23, 3) := by decide +kernel
theorem dX10_taught_138 : decode cX10_taught 138 = .ok (.invokevirtual 109, 3) := by decide +kernel
theorem dX10_taught_141 : decode cX10_taught 141 = .ok (.ireturn, 1) := by decide +kernel
theorem dX10_first_0 : decode cX10_first 0 = .ok (.aload_n 0, 1) := by decide +kernel
theorem dX10_first_1 : decode cX10_first 1 = .ok (.iload_n 1, 1) := by decide +kernel
theorem dX10_first_2 : decode cX10_first 2 = .ok (.invokevirtual 105, 3) := by decide +kernel
theorem dX10_first_5 : decode cX10_first 5 = .ok (.ifCond .eq 19, 3) := by decide +kernel
theorem dX10_first_8 : decode cX10_first 8 = .ok (.iload_n 2, 1) := by decide +kernel
theorem dX10_first_9 : decode cX10_first 9 = .ok (.ifCond .lt 15, 3) := by decide +kernel
theorem dX10_first_12 : decode cX10_first 12 = .ok (.iload_n 2, 1) := by decide +kernel
theorem dX10_first_13 : decode cX10_first 13 = .ok (.iconst 1, 1) := by decide +kernel
theorem dX10_first_14 : decode cX10_first 14 = .ok (.if_icmp .gt 10, 3) := by decide +kernel
theorem dX10_first_17 : decode cX10_first 17 = .ok (.aload_n 0, 1) := by decide +kernel
theorem dX10_first_18 : decode cX10_first 18 = .ok (.invokevirtual 219, 3) := by decide +kernel
theorem dX10_first_21 : decode cX10_first 21 = .ok (.ifCond .ne 5, 3) := by decide +kernel
theorem dX10_first_24 : decode cX10_first 24 = .ok (.iconst (-1), 1) := by decide +kernel
theorem dX10_first_25 : decode cX10_first 25 = .ok (.ireturn, 1) := by decide +kernel
theorem dX10_first_26 : decode cX10_first 26 = .ok (.aload_n 0, 1) := by decide +kernel
theorem dX10_first_27 : decode cX10_first 27 = .ok (.getfield 209, 3) := by decide +kernel
theorem dX10_first_30 : decode cX10_first 30 = .ok (.ifCond .ne 6, 3) := by decide +kernel
theorem dX10_first_33 : decode cX10_first 33 = .ok (.bipush (-5), 2) := by decide +kernel
theorem dX10_first_35 : decode cX10_first 35 = .ok (.ireturn, 1) := by decide +kernel
theorem dX10_first_36 : decode cX10_first 36 = .ok (.aload_n 0, 1) := by decide +kernel
theorem dX10_first_37 : decode cX10_first 37 = .ok (.getfield 209, 3) := by decide +kernel
theorem dX10_first_40 : decode cX10_first 40 = .ok (.iconst 5, 1) := by decide +kernel
theorem dX10_first_41 : decode cX10_first 41 = .ok (.invokestatic 222, 3) := by decide +kernel
theorem dX10_first_44 : decode cX10_first 44 = .ok (.istore_n 3, 1) := by decide +kernel
theorem dX10_first_45 : decode cX10_first 45 = .ok (.aload_n 0, 1) := by decide +kernel
theorem dX10_first_46 : decode cX10_first 46 = .ok (.aload_n 0, 1) := by decide +kernel
theorem dX10_first_47 : decode cX10_first 47 = .ok (.getfield 18, 3) := by decide +kernel
theorem dX10_first_50 : decode cX10_first 50 = .ok (.iload_n 1, 1) := by decide +kernel
theorem dX10_first_51 : decode cX10_first 51 = .ok (.aaload, 1) := by decide +kernel
theorem dX10_first_52 : decode cX10_first 52 = .ok (.iload_n 3, 1) := by decide +kernel
theorem dX10_first_53 : decode cX10_first 53 = .ok (.invokevirtual 227, 3) := by decide +kernel
theorem dX10_first_56 : decode cX10_first 56 = .ok (.aload_n 0, 1) := by decide +kernel
theorem dX10_first_57 : decode cX10_first 57 = .ok (.iload_n 3, 1) := by decide +kernel
theorem dX10_first_58 : decode cX10_first 58 = .ok (.invokevirtual 231, 3) := by decide +kernel
theorem dX10_first_61 : decode cX10_first 61 = .ok (.istore 4, 2) := by decide +kernel
theorem dX10_first_63 : decode cX10_first 63 = .ok (.aload_n 0, 1) := by decide +kernel
theorem dX10_first_64 : decode cX10_first 64 = .ok (.aload_n 0, 1) := by decide +kernel
theorem dX10_first_65 : decode cX10_first 65 = .ok (.getfield 18, 3) := by decide +kernel
theorem dX10_first_68 : decode cX10_first 68 = .ok (.iload_n 1, 1) := by decide +kernel
theorem dX10_first_69 : decode cX10_first 69 = .ok (.aaload, 1) := by decide +kernel
theorem dX10_first_70 : decode cX10_first 70 = .ok (.iload_n 3, 1) := by decide +kernel
theorem dX10_first_71 : decode cX10_first 71 = .ok (.invokevirtual 234, 3) := by decide +kernel
theorem dX10_first_74 : decode cX10_first 74 = .ok (.istore 5, 2) := by decide +kernel
theorem dX10_first_76 : decode cX10_first 76 = .ok (.iconst 0, 1) := by decide +kernel
theorem dX10_first_77 : decode cX10_first 77 = .ok (.istore 6, 2) := by decide +kernel
theorem dX10_first_79 : decode cX10_first 79 = .ok (.iload 6, 2) := by decide +kernel
theorem dX10_first_81 : decode cX10_first 81 = .ok (.bipush 120, 2) := by decide +kernel
theorem dX10_first_83 : decode cX10_first 83 = .ok (.if_icmp .ge 48, 3) := by decide +kernel
theorem dX10_first_86 : decode cX10_first 86 = .ok (.aload_n 0, 1) := by decide +kernel
theorem dX10_first_87 : decode cX10_first 87 = .ok (.iload_n 3, 1) := by decide +kernel
theorem dX10_first_88 : decode cX10_first 88 = .ok (.invokevirtual 237, 3) := by decide +kernel
theorem dX10_first_91 : decode cX10_first 91 = .ok (.ifCond .eq 40, 3) := by decide +kernel
theorem dX10_first_94 : decode cX10_first 94 = .ok (.aload_n 0, 1) := by decide +kernel
theorem dX10_first_95 : decode cX10_first 95 = .ok (.aload_n 0, 1) := by decide +kernel
theorem dX10_first_96 : decode cX10_first 96 = .ok (.getfield 18, 3) := by decide +kernel
theorem dX10_first_99 : decode cX10_first 99 = .ok (.iload_n 1, 1) := by decide +kernel
theorem dX10_first_100 : decode cX10_first 100 = .ok (.aaload, 1) := by decide +kernel
theorem dX10_first_101 : decode cX10_first 101 = .ok (.iload_n 3, 1) := by decide +kernel
theorem dX10_first_102 : decode cX10_first 102 = .ok (.invokevirtual 234, 3) := by decide +kernel
theorem dX10_first_105 : decode cX10_first 105 = .ok (.istore 7, 2) := by decide +kernel
theorem dX10_first_107 : decode cX10_first 107 = .ok (.iload 7, 2) := by decide +kernel
theorem dX10_first_109 : decode cX10_first 109 = .ok (.iload 5, 2) := by decide +kernel
theorem dX10_first_111 : decode cX10_first 111 = .ok (.if_icmp .ge 14, 3) := by decide +kernel
theorem dX10_first_114 : decode cX10_first 114 = .ok (.aload_n 0, 1) := by decide +kernel
theorem dX10_first_115 : decode cX10_first 115 = .ok (.iload_n 3, 1) := by decide +kernel
theorem dX10_first_116 : decode cX10_first 116 = .ok (.invokevirtual 231, 3) := by decide +kernel
theorem dX10_first_119 : decode cX10_first 119 = .ok (.istore 4, 2) := by decide +kernel
theorem dX10_first_121 : decode cX10_first 121 = .ok (.iload 7, 2) := by decide +kernel
theorem dX10_first_123 : decode cX10_first 123 = .ok (.istore 5, 2) := by decide +kernel
theorem dX10_first_125 : decode cX10_first 125 = .ok (.iinc 6 1, 3) := by decide +kernel
theorem dX10_first_128 : decode cX10_first 128 = .ok (.goto (-49), 3) := by decide +kernel
theorem dX10_first_131 : decode cX10_first 131 = .ok (.iload_n 2, 1) := by decide +kernel
theorem dX10_first_132 : decode cX10_first 132 = .ok (.ifCond .ne 8, 3) := by decide +kernel
theorem dX10_first_135 : decode cX10_first 135 = .ok (.iload 4, 2) := by decide +kernel
theorem dX10_first_137 : decode cX10_first 137 = .ok (.goto 5, 3) := by decide +kernel
theorem dX10_first_140 : decode cX10_first 140 = .ok (.iload 5, 2) := by decide +kernel
theorem dX10_first_142 : decode cX10_first 142 = .ok (.ireturn, 1) := by decide +kernel
theorem dX10_root_0 : decode cX10_root 0 = .ok (.lload_n 1, 1) := by decide +kernel
theorem dX10_root_1 : decode cX10_root 1 = .ok (.invokestatic 240, 3) := by decide +kernel
theorem dX10_root_4 : decode cX10_root 4 = .ok (.ifCond .eq 10, 3) := by decide +kernel
theorem dX10_root_7 : decode cX10_root 7 = .ok (.iload_n 3, 1) := by decide +kernel
theorem dX10_root_8 : decode cX10_root 8 = .ok (.invokestatic 246, 3) := by decide +kernel
theorem dX10_root_11 : decode cX10_root 11 = .ok (.ifCond .ne 5, 3) := by decide +kernel
theorem dX10_root_14 : decode cX10_root 14 = .ok (.iconst (-1), 1) := by decide +kernel
theorem dX10_root_15 : decode cX10_root 15 = .ok (.ireturn, 1) := by decide +kernel
theorem dX10_root_16 : decode cX10_root 16 = .ok (.lload_n 1, 1) := by decide +kernel
theorem dX10_root_17 : decode cX10_root 17 = .ok (.iload_n 3, 1) := by decide +kernel
theorem dX10_root_18 : decode cX10_root 18 = .ok (.invokestatic 249, 3) := by decide +kernel
theorem dX10_root_21 : decode cX10_root 21 = .ok (.l2i, 1) := by decide +kernel
theorem dX10_root_22 : decode cX10_root 22 = .ok (.ireturn, 1) := by decide +kernel
theorem dX10_firsts_0 : decode cX10_firsts 0 = .ok (.iload_n 3, 1) := by decide +kernel
theorem dX10_firsts_1 : decode cX10_firsts 1 = .ok (.bipush 100, 2) := by decide +kernel
theorem dX10_firsts_3 : decode cX10_firsts 3 = .ok (.idiv, 1) := by decide +kernel
theorem dX10_firsts_4 : decode cX10_firsts 4 = .ok (.istore 5, 2) := by decide +kernel
theorem dX10_firsts_6 : decode cX10_firsts 6 = .ok (.iload_n 3, 1) := by decide +kernel
theorem dX10_firsts_7 : decode cX10_firsts 7 = .ok (.bipush 100, 2) := by decide +kernel
theorem dX10_firsts_9 : decode cX10_firsts 9 = .ok (.irem, 1) := by decide +kernel
theorem dX10_firsts_10 : decode cX10_firsts 10 = .ok (.istore 6, 2) := by decide +kernel
theorem dX10_firsts_12 : decode cX10_firsts 12 = .ok (.lload_n 1, 1) := by decide +kernel
theorem dX10_firsts_13 : decode cX10_firsts 13 = .ok (.invokestatic 240, 3) := by decide +kernel
theorem dX10_firsts_16 : decode cX10_firsts 16 = .ok (.ifCond .eq 26, 3) := by decide +kernel
theorem dX10_firsts_19 : decode cX10_firsts 19 = .ok (.iload 5, 2) := by decide +kernel
theorem dX10_firsts_21 : decode cX10_firsts 21 = .ok (.invokestatic 246, 3) := by decide +kernel
theorem dX10_firsts_24 : decode cX10_firsts 24 = .ok (.ifCond .eq 18, 3) := by decide +kernel
theorem dX10_firsts_27 : decode cX10_firsts 27 = .ok (.iload 6, 2) := by decide +kernel
theorem dX10_firsts_29 : decode cX10_firsts 29 = .ok (.iconst 1, 1) := by decide +kernel
theorem dX10_firsts_30 : decode cX10_firsts 30 = .ok (.if_icmp .lt 12, 3) := by decide +kernel
theorem dX10_firsts_33 : decode cX10_firsts 33 = .ok (.iload 6, 2) := by decide +kernel
theorem dX10_firsts_35 : decode cX10_firsts 35 = .ok (.lload_n 1, 1) := by decide +kernel
theorem dX10_firsts_36 : decode cX10_firsts 36 = .ok (.invokestatic 253, 3) := by decide +kernel
theorem dX10_firsts_39 : decode cX10_firsts 39 = .ok (.if_icmp .le 5, 3) := by decide +kernel
theorem dX10_firsts_42 : decode cX10_firsts 42 = .ok (.iconst (-1), 1) := by decide +kernel
theorem dX10_firsts_43 : decode cX10_firsts 43 = .ok (.ireturn, 1) := by decide +kernel
theorem dX10_firsts_44 : decode cX10_firsts 44 = .ok (.iload 4, 2) := by decide +kernel
theorem dX10_firsts_46 : decode cX10_firsts 46 = .ok (.ifCond .ne 13, 3) := by decide +kernel
theorem dX10_firsts_49 : decode cX10_firsts 49 = .ok (.lload_n 1, 1) := by decide +kernel
theorem dX10_firsts_50 : decode cX10_firsts 50 = .ok (.iload 5, 2) := by decide +kernel
theorem dX10_firsts_52 : decode cX10_firsts 52 = .ok (.iload 6, 2) := by decide +kernel
theorem dX10_firsts_54 : decode cX10_firsts 54 = .ok (.invokestatic 259, 3) := by decide +kernel
theorem dX10_firsts_57 : decode cX10_firsts 57 = .ok (.l2i, 1) := by decide +kernel
theorem dX10_firsts_58 : decode cX10_firsts 58 = .ok (.ireturn, 1) := by decide +kernel
theorem dX10_firsts_59 : decode cX10_firsts 59 = .ok (.iload 4, 2) := by decide +kernel
theorem dX10_firsts_61 : decode cX10_firsts 61 = .ok (.iconst 1, 1) := by decide +kernel
theorem dX10_firsts_62 : decode cX10_firsts 62 = .ok (.if_icmp .ne 15, 3) := by decide +kernel
theorem dX10_firsts_65 : decode cX10_firsts 65 = .ok (.lload_n 1, 1) := by decide +kernel
theorem dX10_firsts_66 : decode cX10_firsts 66 = .ok (.iload 5, 2) := by decide +kernel
theorem dX10_firsts_68 : decode cX10_firsts 68 = .ok (.iload 6, 2) := by decide +kernel
theorem dX10_firsts_70 : decode cX10_firsts 70 = .ok (.invokestatic 263, 3) := by decide +kernel
theorem dX10_firsts_73 : decode cX10_firsts 73 = .ok (.l2i, 1) := by decide +kernel
theorem dX10_firsts_74 : decode cX10_firsts 74 = .ok (.goto 4, 3) := by decide +kernel
theorem dX10_firsts_77 : decode cX10_firsts 77 = .ok (.iconst (-1), 1) := by decide +kernel
theorem dX10_firsts_78 : decode cX10_firsts 78 = .ok (.ireturn, 1) := by decide +kernel
theorem dX10_enough_0 : decode cX10_enough 0 = .ok (.lload_n 1, 1) := by decide +kernel
theorem dX10_enough_1 : decode cX10_enough 1 = .ok (.invokestatic 240, 3) := by decide +kernel
theorem dX10_enough_4 : decode cX10_enough 4 = .ok (.ifCond .eq 10, 3) := by decide +kernel
theorem dX10_enough_7 : decode cX10_enough 7 = .ok (.iload_n 3, 1) := by decide +kernel
theorem dX10_enough_8 : decode cX10_enough 8 = .ok (.invokestatic 246, 3) := by decide +kernel
theorem dX10_enough_11 : decode cX10_enough 11 = .ok (.ifCond .ne 5, 3) := by decide +kernel
theorem dX10_enough_14 : decode cX10_enough 14 = .ok (.iconst (-1), 1) := by decide +kernel
theorem dX10_enough_15 : decode cX10_enough 15 = .ok (.ireturn, 1) := by decide +kernel
theorem dX10_enough_16 : decode cX10_enough 16 = .ok (.lload_n 1, 1) := by decide +kernel
theorem dX10_enough_17 : decode cX10_enough 17 = .ok (.iload_n 3, 1) := by decide +kernel
theorem dX10_enough_18 : decode cX10_enough 18 = .ok (.invokestatic 249, 3) := by decide +kernel
theorem dX10_enough_21 : decode cX10_enough 21 = .ok (.lconst 0, 1) := by decide +kernel
theorem dX10_enough_22 : decode cX10_enough 22 = .ok (.lcmp, 1) := by decide +kernel
theorem dX10_enough_23 : decode cX10_enough 23 = .ok (.ifCond .ne 6, 3) := by decide +kernel
theorem dX10_enough_26 : decode cX10_enough 26 = .ok (.bipush (-2), 2) := by decide +kernel
theorem dX10_enough_28 : decode cX10_enough 28 = .ok (.ireturn, 1) := by decide +kernel
theorem dX10_enough_29 : decode cX10_enough 29 = .ok (.lload_n 1, 1) := by decide +kernel
theorem dX10_enough_30 : decode cX10_enough 30 = .ok (.invokestatic 253, 3) := by decide +kernel
theorem dX10_enough_33 : decode cX10_enough 33 = .ok (.istore 4, 2) := by decide +kernel
theorem dX10_enough_35 : decode cX10_enough 35 = .ok (.iconst 1, 1) := by decide +kernel
theorem dX10_enough_36 : decode cX10_enough 36 = .ok (.istore 5, 2) := by decide +kernel
theorem dX10_enough_38 : decode cX10_enough 38 = .ok (.iload 5, 2) := by decide +kernel
theorem dX10_enough_40 : decode cX10_enough 40 = .ok (.iload 4, 2) := by decide +kernel
theorem dX10_enough_42 : decode cX10_enough 42 = .ok (.if_icmp .ge 24, 3) := by decide +kernel
theorem dX10_enough_45 : decode cX10_enough 45 = .ok (.lload_n 1, 1) := by decide +kernel
theorem dX10_enough_46 : decode cX10_enough 46 = .ok (.iload_n 3, 1) := by decide +kernel
theorem dX10_enough_47 : decode cX10_enough 47 = .ok (.iload 5, 2) := by decide +kernel
theorem dX10_enough_49 : decode cX10_enough 49 = .ok (.invokestatic 259, 3) := by decide +kernel
theorem dX10_enough_52 : decode cX10_enough 52 = .ok (.lconst 1, 1) := by decide +kernel
theorem dX10_enough_53 : decode cX10_enough 53 = .ok (.lcmp, 1) := by decide +kernel
theorem dX10_enough_54 : decode cX10_enough 54 = .ok (.ifCond .ne 6, 3) := by decide +kernel
theorem dX10_enough_57 : decode cX10_enough 57 = .ok (.iload 5, 2) := by decide +kernel
theorem dX10_enough_59 : decode cX10_enough 59 = .ok (.ireturn, 1) := by decide +kernel
theorem dX10_enough_60 : decode cX10_enough 60 = .ok (.iinc 5 1, 3) := by decide +kernel
theorem dX10_enough_63 : decode cX10_enough 63 = .ok (.goto (-25), 3) := by decide +kernel
theorem dX10_enough_66 : decode cX10_enough 66 = .ok (.iload 4, 2) := by decide +kernel
theorem dX10_enough_68 : decode cX10_enough 68 = .ok (.ireturn, 1) := by decide +kernel
theorem dX10_undo_0 : decode cX10_undo 0 = .ok (.aload_n 0, 1) := by decide +kernel
theorem dX10_undo_1 : decode cX10_undo 1 = .ok (.getfield 64, 3) := by decide +kernel
theorem dX10_undo_4 : decode cX10_undo 4 = .ok (.invokevirtual 266, 3) := by decide +kernel
theorem dX10_undo_7 : decode cX10_undo 7 = .ok (.ifCond .ne 6, 3) := by decide +kernel
theorem dX10_undo_10 : decode cX10_undo 10 = .ok (.bipush (-5), 2) := by decide +kernel
theorem dX10_undo_12 : decode cX10_undo 12 = .ok (.ireturn, 1) := by decide +kernel
theorem dX10_undo_13 : decode cX10_undo 13 = .ok (.aload_n 0, 1) := by decide +kernel
theorem dX10_undo_14 : decode cX10_undo 14 = .ok (.getfield 64, 3) := by decide +kernel
theorem dX10_undo_17 : decode cX10_undo 17 = .ok (.aload_n 0, 1) := by decide +kernel
theorem dX10_undo_18 : decode cX10_undo 18 = .ok (.getfield 18, 3) := by decide +kernel
theorem dX10_undo_21 : decode cX10_undo 21 = .ok (.invokevirtual 269, 3) := by decide +kernel
theorem dX10_undo_24 : decode cX10_undo 24 = .ok (.aload_n 0, 1) := by decide +kernel
theorem dX10_undo_25 : decode cX10_undo 25 = .ok (.getfield 64, 3) := by decide +kernel
theorem dX10_undo_28 : decode cX10_undo 28 = .ok (.invokevirtual 266, 3) := by decide +kernel
theorem dX10_undo_31 : decode cX10_undo 31 = .ok (.ireturn, 1) := by decide +kernel
theorem dX10_redo_0 : decode cX10_redo 0 = .ok (.aload_n 0, 1) := by decide +kernel
theorem dX10_redo_1 : decode cX10_redo 1 = .ok (.getfield 64, 3) := by decide +kernel
theorem dX10_redo_4 : decode cX10_redo 4 = .ok (.invokevirtual 273, 3) := by decide +kernel
theorem dX10_redo_7 : decode cX10_redo 7 = .ok (.ifCond .ne 6, 3) := by decide +kernel
theorem dX10_redo_10 : decode cX10_redo 10 = .ok (.bipush (-5), 2) := by decide +kernel
theorem dX10_redo_12 : decode cX10_redo 12 = .ok (.ireturn, 1) := by decide +kernel
theorem dX10_redo_13 : decode cX10_redo 13 = .ok (.aload_n 0, 1) := by decide +kernel
theorem dX10_redo_14 : decode cX10_redo 14 = .ok (.getfield 64, 3) := by decide +kernel
theorem dX10_redo_17 : decode cX10_redo 17 = .ok (.aload_n 0, 1) := by decide +kernel
theorem dX10_redo_18 : decode cX10_redo 18 = .ok (.getfield 18, 3) := by decide +kernel
theorem dX10_redo_21 : decode cX10_redo 21 = .ok (.invokevirtual 276, 3) := by decide +kernel
theorem dX10_redo_24 : decode cX10_redo 24 = .ok (.aload_n 0, 1) := by decide +kernel
theorem dX10_redo_25 : decode cX10_redo 25 = .ok (.getfield 64, 3) := by decide +kernel
theorem dX10_redo_28 : decode cX10_redo 28 = .ok (.invokevirtual 273, 3) := by decide +kernel
theorem dX10_redo_31 : decode cX10_redo 31 = .ok (.ireturn, 1) := by decide +kernel
theorem dX10_body_0 : decode cX10_body 0 = .ok (.iload_n 1, 1) := by decide +kernel
theorem dX10_body_1 : decode cX10_body 1 = .ok (.invokestatic 279, 3) := by decide +kernel
theorem dX10_body_4 : decode cX10_body 4 = .ok (.ifCond .ne 5, 3) := by decide +kernel
theorem dX10_body_7 : decode cX10_body 7 = .ok (.iconst (-1), 1) := by decide +kernel
theorem dX10_body_8 : decode cX10_body 8 = .ok (.ireturn, 1) := by decide +kernel
theorem dX10_body_9 : decode cX10_body 9 = .ok (.aload_n 0, 1) := by decide +kernel
theorem dX10_body_10 : decode cX10_body 10 = .ok (.getfield 71, 3) := by decide +kernel
theorem dX10_body_13 : decode cX10_body 13 = .ok (.iload_n 1, 1) := by decide +kernel
theorem dX10_body_14 : decode cX10_body 14 = .ok (.invokevirtual 282, 3) := by decide +kernel
theorem dX10_body_17 : decode cX10_body 17 = .ok (.ifCond .eq 15, 3) := by decide +kernel
theorem dX10_body_20 : decode cX10_body 20 = .ok (.aload_n 0, 1) := by decide +kernel
theorem dX10_body_21 : decode cX10_body 21 = .ok (.getfield 71, 3) := by decide +kernel
theorem dX10_body_24 : decode cX10_body 24 = .ok (.invokevirtual 284, 3) := by decide +kernel
theorem dX10_body_27 : decode cX10_body 27 = .ok (.iconst 1, 1) := by decide +kernel
theorem dX10_body_28 : decode cX10_body 28 = .ok (.isub, 1) := by decide +kernel
theorem dX10_body_29 : decode cX10_body 29 = .ok (.goto 5, 3) := by decide +kernel
theorem dX10_body_32 : decode cX10_body 32 = .ok (.bipush (-3), 2) := by decide +kernel
theorem dX10_body_34 : decode cX10_body 34 = .ok (.ireturn, 1) := by decide +kernel
theorem dX10_act_0 : decode cX10_act 0 = .ok (.aload_n 0, 1) := by decide +kernel
theorem dX10_act_1 : decode cX10_act 1 = .ok (.getfield 71, 3) := by decide +kernel
theorem dX10_act_4 : decode cX10_act 4 = .ok (.iload_n 1, 1) := by decide +kernel
theorem dX10_act_5 : decode cX10_act 5 = .ok (.iload_n 2, 1) := by decide +kernel
theorem dX10_act_6 : decode cX10_act 6 = .ok (.iload_n 3, 1) := by decide +kernel
theorem dX10_act_7 : decode cX10_act 7 = .ok (.invokevirtual 285, 3) := by decide +kernel
theorem dX10_act_10 : decode cX10_act 10 = .ok (.ireturn, 1) := by decide +kernel
theorem dX10_trace_0 : decode cX10_trace 0 = .ok (.aload_n 0, 1) := by decide +kernel
theorem dX10_trace_1 : decode cX10_trace 1 = .ok (.getfield 71, 3) := by decide +kernel
theorem dX10_trace_4 : decode cX10_trace 4 = .ok (.iload_n 1, 1) := by decide +kernel
theorem dX10_trace_5 : decode cX10_trace 5 = .ok (.invokevirtual 289, 3) := by decide +kernel
theorem dX10_trace_8 : decode cX10_trace 8 = .ok (.ireturn, 1) := by decide +kernel
theorem dX10_keep_0 : decode cX10_keep 0 = .ok (.iload_n 1, 1) := by decide +kernel
theorem dX10_keep_1 : decode cX10_keep 1 = .ok (.invokestatic 169, 3) := by decide +kernel
theorem dX10_keep_4 : decode cX10_keep 4 = .ok (.ifCond .eq 19, 3) := by decide +kernel
theorem dX10_keep_7 : decode cX10_keep 7 = .ok (.iload_n 2, 1) := by decide +kernel
theorem dX10_keep_8 : decode cX10_keep 8 = .ok (.iconst (-1), 1) := by decide +kernel
theorem dX10_keep_9 : decode cX10_keep 9 = .ok (.if_icmp .eq 16, 3) := by decide +kernel
theorem dX10_keep_12 : decode cX10_keep 12 = .ok (.aload_n 0, 1) := by decide +kernel
theorem dX10_keep_13 : decode cX10_keep 13 = .ok (.getfield 71, 3) := by decide +kernel
theorem dX10_keep_16 : decode cX10_keep 16 = .ok (.iload_n 2, 1) := by decide +kernel
theorem dX10_keep_17 : decode cX10_keep 17 = .ok (.invokevirtual 292, 3) := by decide +kernel
theorem dX10_keep_20 : decode cX10_keep 20 = .ok (.ifCond .ne 5, 3) := by decide +kernel
theorem dX10_keep_23 : decode cX10_keep 23 = .ok (.iconst (-1), 1) := by decide +kernel
theorem dX10_keep_24 : decode cX10_keep 24 = .ok (.ireturn, 1) := by decide +kernel
theorem dX10_keep_25 : decode cX10_keep 25 = .ok (.aload_n 0, 1) := by decide +kernel
theorem dX10_keep_26 : decode cX10_keep 26 = .ok (.getfield 77, 3) := by decide +kernel
theorem dX10_keep_29 : decode cX10_keep 29 = .ok (.iload_n 1, 1) := by decide +kernel
theorem dX10_keep_30 : decode cX10_keep 30 = .ok (.aaload, 1) := by decide +kernel
theorem dX10_keep_31 : decode cX10_keep 31 = .ok (.iload_n 2, 1) := by decide +kernel
theorem dX10_keep_32 : decode cX10_keep 32 = .ok (.invokevirtual 293, 3) := by decide +kernel
theorem dX10_keep_35 : decode cX10_keep 35 = .ok (.iconst 1, 1) := by decide +kernel
theorem dX10_keep_36 : decode cX10_keep 36 = .ok (.ireturn, 1) := by decide +kernel
theorem dX10_row_0 : decode cX10_row 0 = .ok (.iload_n 1, 1) := by decide +kernel
theorem dX10_row_1 : decode cX10_row 1 = .ok (.invokestatic 169, 3) := by decide +kernel
theorem dX10_row_4 : decode cX10_row 4 = .ok (.ifCond .eq 16, 3) := by decide +kernel
theorem dX10_row_7 : decode cX10_row 7 = .ok (.iload_n 2, 1) := by decide +kernel
theorem dX10_row_8 : decode cX10_row 8 = .ok (.invokestatic 297, 3) := by decide +kernel
theorem dX10_row_11 : decode cX10_row 11 = .ok (.ifCond .eq 9, 3) := by decide +kernel
theorem dX10_row_14 : decode cX10_row 14 = .ok (.iload_n 3, 1) := by decide +kernel
theorem dX10_row_15 : decode cX10_row 15 = .ok (.bipush 60, 2) := by decide +kernel
theorem dX10_row_17 : decode cX10_row 17 = .ok (.if_icmp .le 5, 3) := by decide +kernel
theorem dX10_row_20 : decode cX10_row 20 = .ok (.iconst (-1), 1) := by decide +kernel
theorem dX10_row_21 : decode cX10_row 21 = .ok (.ireturn, 1) := by decide +kernel
theorem dX10_row_22 : decode cX10_row 22 = .ok (.iload_n 3, 1) := by decide +kernel
theorem dX10_row_23 : decode cX10_row 23 = .ok (.ifCond .ge 6, 3) := by decide +kernel
theorem dX10_row_26 : decode cX10_row 26 = .ok (.bipush (-14), 2) := by decide +kernel
theorem dX10_row_28 : decode cX10_row 28 = .ok (.ireturn, 1) := by decide +kernel
theorem dX10_row_29 : decode cX10_row 29 = .ok (.aload_n 0, 1) := by decide +kernel
theorem dX10_row_30 : decode cX10_row 30 = .ok (.getfield 77, 3) := by decide +kernel
theorem dX10_row_33 : decode cX10_row 33 = .ok (.iload_n 1, 1) := by decide +kernel
theorem dX10_row_34 : decode cX10_row 34 = .ok (.aaload, 1) := by decide +kernel
theorem dX10_row_35 : decode cX10_row 35 = .ok (.iload_n 2, 1) := by decide +kernel
theorem dX10_row_36 : decode cX10_row 36 = .ok (.iload_n 3, 1) := by decide +kernel
theorem dX10_row_37 : decode cX10_row 37 = .ok (.invokevirtual 300, 3) := by decide +kernel
theorem dX10_row_40 : decode cX10_row 40 = .ok (.iconst 1, 1) := by decide +kernel
theorem dX10_row_41 : decode cX10_row 41 = .ok (.ireturn, 1) := by decide +kernel
theorem dX10_put_0 : decode cX10_put 0 = .ok (.aload_n 0, 1) := by decide +kernel
theorem dX10_put_1 : decode cX10_put 1 = .ok (.iload_n 1, 1) := by decide +kernel
theorem dX10_put_2 : decode cX10_put 2 = .ok (.iload_n 2, 1) := by decide +kernel
theorem dX10_put_3 : decode cX10_put 3 = .ok (.invokevirtual 303, 3) := by decide +kernel
theorem dX10_put_6 : decode cX10_put 6 = .ok (.istore 5, 2) := by decide +kernel
theorem dX10_put_8 : decode cX10_put 8 = .ok (.iload 5, 2) := by decide +kernel
theorem dX10_put_10 : decode cX10_put 10 = .ok (.ifCond .eq 6, 3) := by decide +kernel
theorem dX10_put_13 : decode cX10_put 13 = .ok (.iload 5, 2) := by decide +kernel
theorem dX10_put_15 : decode cX10_put 15 = .ok (.ireturn, 1) := by decide +kernel
theorem dX10_put_16 : decode cX10_put 16 = .ok (.aload_n 0, 1) := by decide +kernel
theorem dX10_put_17 : decode cX10_put 17 = .ok (.getfield 77, 3) := by decide +kernel
theorem dX10_put_20 : decode cX10_put 20 = .ok (.iload_n 1, 1) := by decide +kernel
theorem dX10_put_21 : decode cX10_put 21 = .ok (.aaload, 1) := by decide +kernel
theorem dX10_put_22 : decode cX10_put 22 = .ok (.iload_n 2, 1) := by decide +kernel
theorem dX10_put_23 : decode cX10_put 23 = .ok (.lload_n 3, 1) := by decide +kernel
theorem dX10_put_24 : decode cX10_put 24 = .ok (.invokevirtual 306, 3) := by decide +kernel
theorem dX10_put_27 : decode cX10_put 27 = .ok (.iconst 1, 1) := by decide +kernel
theorem dX10_put_28 : decode cX10_put 28 = .ok (.ireturn, 1) := by decide +kernel
theorem dX10_element_0 : decode cX10_element 0 = .ok (.aload_n 0, 1) := by decide +kernel
theorem dX10_element_1 : decode cX10_element 1 = .ok (.iload_n 1, 1) := by decide +kernel
theorem dX10_element_2 : decode cX10_element 2 = .ok (.iload_n 2, 1) := by decide +kernel
theorem dX10_element_3 : decode cX10_element 3 = .ok (.invokevirtual 303, 3) := by decide +kernel
theorem dX10_element_6 : decode cX10_element 6 = .ok (.ifCond .eq 9, 3) := by decide +kernel
theorem dX10_element_9 : decode cX10_element 9 = .ok (.ldc2_w 312, 3) := by decide +kernel
theorem dX10_element_12 : decode cX10_element 12 = .ok (.goto 13, 3) := by decide +kernel
theorem dX10_element_15 : decode cX10_element 15 = .ok (.aload_n 0, 1) := by decide +kernel
theorem dX10_element_16 : decode cX10_element 16 = .ok (.getfield 77, 3) := by decide +kernel
theorem dX10_element_19 : decode cX10_element 19 = .ok (.iload_n 1, 1) := by decide +kernel
theorem dX10_element_20 : decode cX10_element 20 = .ok (.aaload, 1) := by decide +kernel
theorem dX10_element_21 : decode cX10_element 21 = .ok (.iload_n 2, 1) := by decide +kernel
theorem dX10_element_22 : decode cX10_element 22 = .ok (.invokevirtual 314, 3) := by decide +kernel
theorem dX10_element_25 : decode cX10_element 25 = .ok (.lreturn, 1) := by decide +kernel
theorem dX10_shift_0 : decode cX10_shift 0 = .ok (.iload_n 1, 1) := by decide +kernel
theorem dX10_shift_1 : decode cX10_shift 1 = .ok (.invokestatic 169, 3) := by decide +kernel
theorem dX10_shift_4 : decode cX10_shift 4 = .ok (.ifCond .eq 10, 3) := by decide +kernel
theorem dX10_shift_7 : decode cX10_shift 7 = .ok (.iload_n 3, 1) := by decide +kernel
theorem dX10_shift_8 : decode cX10_shift 8 = .ok (.invokestatic 169, 3) := by decide +kernel
theorem dX10_shift_11 : decode cX10_shift 11 = .ok (.ifCond .ne 5, 3) := by decide +kernel
theorem dX10_shift_14 : decode cX10_shift 14 = .ok (.iconst (-1), 1) := by decide +kernel
theorem dX10_shift_15 : decode cX10_shift 15 = .ok (.ireturn, 1) := by decide +kernel
theorem dX10_shift_16 : decode cX10_shift 16 = .ok (.aload_n 0, 1) := by decide +kernel
theorem dX10_shift_17 : decode cX10_shift 17 = .ok (.getfield 77, 3) := by decide +kernel
theorem dX10_shift_20 : decode cX10_shift 20 = .ok (.iload_n 1, 1) := by decide +kernel
theorem dX10_shift_21 : decode cX10_shift 21 = .ok (.aaload, 1) := by decide +kernel
theorem dX10_shift_22 : decode cX10_shift 22 = .ok (.astore 6, 2) := by decide +kernel
theorem dX10_shift_24 : decode cX10_shift 24 = .ok (.aload_n 0, 1) := by decide +kernel
theorem dX10_shift_25 : decode cX10_shift 25 = .ok (.getfield 77, 3) := by decide +kernel
theorem dX10_shift_28 : decode cX10_shift 28 = .ok (.iload_n 3, 1) := by decide +kernel
theorem dX10_shift_29 : decode cX10_shift 29 = .ok (.aaload, 1) := by decide +kernel
theorem dX10_shift_30 : decode cX10_shift 30 = .ok (.astore 7, 2) := by decide +kernel
theorem dX10_shift_32 : decode cX10_shift 32 = .ok (.aload 6, 2) := by decide +kernel
theorem dX10_shift_34 : decode cX10_shift 34 = .ok (.invokevirtual 172, 3) := by decide +kernel
theorem dX10_shift_37 : decode cX10_shift 37 = .ok (.ifCond .ne 11, 3) := by decide +kernel
theorem dX10_shift_40 : decode cX10_shift 40 = .ok (.aload 7, 2) := by decide +kernel
theorem dX10_shift_42 : decode cX10_shift 42 = .ok (.invokevirtual 172, 3) := by decide +kernel
theorem dX10_shift_45 : decode cX10_shift 45 = .ok (.ifCond .eq 6, 3) := by decide +kernel
theorem dX10_shift_48 : decode cX10_shift 48 = .ok (.bipush (-11), 2) := by decide +kernel
theorem dX10_shift_50 : decode cX10_shift 50 = .ok (.ireturn, 1) := by decide +kernel
theorem dX10_shift_51 : decode cX10_shift 51 = .ok (.aload 6, 2) := by decide +kernel
theorem dX10_shift_53 : decode cX10_shift 53 = .ok (.invokevirtual 318, 3) := by decide +kernel
theorem dX10_shift_56 : decode cX10_shift 56 = .ok (.ifCond .eq 24, 3) := by decide +kernel
theorem dX10_shift_59 : decode cX10_shift 59 = .ok (.aload 7, 2) := by decide +kernel
theorem dX10_shift_61 : decode cX10_shift 61 = .ok (.invokevirtual 318, 3) := by decide +kernel
theorem dX10_shift_64 : decode cX10_shift 64 = .ok (.ifCond .eq 16, 3) := by decide +kernel
theorem dX10_shift_67 : decode cX10_shift 67 = .ok (.aload 6, 2) := by decide +kernel
theorem dX10_shift_69 : decode cX10_shift 69 = .ok (.invokevirtual 321, 3) := by decide +kernel
theorem dX10_shift_72 : decode cX10_shift 72 = .ok (.aload 7, 2) := by decide +kernel
theorem dX10_shift_74 : decode cX10_shift 74 = .ok (.invokevirtual 321, 3) := by decide +kernel
theorem dX10_shift_77 : decode cX10_shift 77 = .ok (.if_icmp .eq 6, 3) := by decide +kernel
theorem dX10_shift_80 : decode cX10_shift 80 = .ok (.bipush (-12), 2) := by decide +kernel
theorem dX10_shift_82 : decode cX10_shift 82 = .ok (.ireturn, 1) := by decide +kernel
theorem dX10_shift_83 : decode cX10_shift 83 = .ok (.aload 6, 2) := by decide +kernel
theorem dX10_shift_85 : decode cX10_shift 85 = .ok (.iload_n 2, 1) := by decide +kernel
theorem dX10_shift_86 : decode cX10_shift 86 = .ok (.iload 5, 2) := by decide +kernel
theorem dX10_shift_88 : decode cX10_shift 88 = .ok (.invokevirtual 324, 3) := by decide +kernel
theorem dX10_shift_91 : decode cX10_shift 91 = .ok (.ifCond .eq 15, 3) := by decide +kernel
theorem dX10_shift_94 : decode cX10_shift 94 = .ok (.aload 7, 2) := by decide +kernel
theorem dX10_shift_96 : decode cX10_shift 96 = .ok (.iload 4, 2) := by decide +kernel
theorem dX10_shift_98 : decode cX10_shift 98 = .ok (.iload 5, 2) := by decide +kernel
theorem dX10_shift_100 : decode cX10_shift 100 = .ok (.invokevirtual 324, 3) := by decide +kernel
theorem dX10_shift_103 : decode cX10_shift 103 = .ok (.ifCond .ne 6, 3) := by decide +kernel
theorem dX10_shift_106 : decode cX10_shift 106 = .ok (.bipush (-13), 2) := by decide +kernel
theorem dX10_shift_108 : decode cX10_shift 108 = .ok (.ireturn, 1) := by decide +kernel
theorem dX10_shift_109 : decode cX10_shift 109 = .ok (.aload 7, 2) := by decide +kernel
theorem dX10_shift_111 : decode cX10_shift 111 = .ok (.aload 6, 2) := by decide +kernel
theorem dX10_shift_113 : decode cX10_shift 113 = .ok (.iload_n 2, 1) := by decide +kernel
theorem dX10_shift_114 : decode cX10_shift 114 = .ok (.iload 4, 2) := by decide +kernel
theorem dX10_shift_116 : decode cX10_shift 116 = .ok (.iload 5, 2) := by decide +kernel
theorem dX10_shift_118 : decode cX10_shift 118 = .ok (.invokevirtual 327, 3) := by decide +kernel
theorem dX10_shift_121 : decode cX10_shift 121 = .ok (.iload 5, 2) := by decide +kernel
theorem dX10_shift_123 : decode cX10_shift 123 = .ok (.ireturn, 1) := by decide +kernel
theorem dX10_taken_0 : decode cX10_taken 0 = .ok (.iload_n 1, 1) := by decide +kernel
theorem dX10_taken_1 : decode cX10_taken 1 = .ok (.invokestatic 169, 3) := by decide +kernel
theorem dX10_taken_4 : decode cX10_taken 4 = .ok (.ifCond .eq 10, 3) := by decide +kernel
theorem dX10_taken_7 : decode cX10_taken 7 = .ok (.iload_n 2, 1) := by decide +kernel
theorem dX10_taken_8 : decode cX10_taken 8 = .ok (.invokestatic 279, 3) := by decide +kernel
theorem dX10_taken_11 : decode cX10_taken 11 = .ok (.ifCond .ne 5, 3) := by decide +kernel
theorem dX10_taken_14 : decode cX10_taken 14 = .ok (.iconst (-1), 1) := by decide +kernel
theorem dX10_taken_15 : decode cX10_taken 15 = .ok (.ireturn, 1) := by decide +kernel
theorem dX10_taken_16 : decode cX10_taken 16 = .ok (.aload_n 0, 1) := by decide +kernel
theorem dX10_taken_17 : decode cX10_taken 17 = .ok (.getfield 77, 3) := by decide +kernel
theorem dX10_taken_20 : decode cX10_taken 20 = .ok (.iload_n 1, 1) := by decide +kernel
theorem dX10_taken_21 : decode cX10_taken 21 = .ok (.aaload, 1) := by decide +kernel
theorem dX10_taken_22 : decode cX10_taken 22 = .ok (.astore_n 3, 1) := by decide +kernel
theorem dX10_taken_23 : decode cX10_taken 23 = .ok (.aload_n 3, 1) := by decide +kernel
theorem dX10_taken_24 : decode cX10_taken 24 = .ok (.invokevirtual 172, 3) := by decide +kernel
theorem dX10_taken_27 : decode cX10_taken 27 = .ok (.ifCond .eq 6, 3) := by decide +kernel
theorem dX10_taken_30 : decode cX10_taken 30 = .ok (.bipush (-11), 2) := by decide +kernel
theorem dX10_taken_32 : decode cX10_taken 32 = .ok (.ireturn, 1) := by decide +kernel
theorem dX10_taken_33 : decode cX10_taken 33 = .ok (.aload_n 3, 1) := by decide +kernel
theorem dX10_taken_34 : decode cX10_taken 34 = .ok (.invokevirtual 318, 3) := by decide +kernel
theorem dX10_taken_37 : decode cX10_taken 37 = .ok (.ifCond .ne 21, 3) := by decide +kernel
theorem dX10_taken_40 : decode cX10_taken 40 = .ok (.aload_n 0, 1) := by decide +kernel
theorem dX10_taken_41 : decode cX10_taken 41 = .ok (.getfield 71, 3) := by decide +kernel
theorem dX10_taken_44 : decode cX10_taken 44 = .ok (.aload_n 3, 1) := by decide +kernel
theorem dX10_taken_45 : decode cX10_taken 45 = .ok (.invokevirtual 331, 3) := by decide +kernel
theorem dX10_taken_48 : decode cX10_taken 48 = .ok (.invokevirtual 334, 3) := by decide +kernel
theorem dX10_taken_51 : decode cX10_taken 51 = .ok (.iload_n 2, 1) := by decide +kernel
theorem dX10_taken_52 : decode cX10_taken 52 = .ok (.invokestatic 337, 3) := by decide +kernel
theorem dX10_taken_55 : decode cX10_taken 55 = .ok (.ifCond .ne 6, 3) := by decide +kernel
theorem dX10_taken_58 : decode cX10_taken 58 = .ok (.bipush (-12), 2) := by decide +kernel
theorem dX10_taken_60 : decode cX10_taken 60 = .ok (.ireturn, 1) := by decide +kernel
theorem dX10_taken_61 : decode cX10_taken 61 = .ok (.aload_n 0, 1) := by decide +kernel
theorem dX10_taken_62 : decode cX10_taken 62 = .ok (.getfield 71, 3) := by decide +kernel
theorem dX10_taken_65 : decode cX10_taken 65 = .ok (.aload_n 3, 1) := by decide +kernel
theorem dX10_taken_66 : decode cX10_taken 66 = .ok (.invokevirtual 331, 3) := by decide +kernel
theorem dX10_taken_69 : decode cX10_taken 69 = .ok (.invokevirtual 334, 3) := by decide +kernel
theorem dX10_taken_72 : decode cX10_taken 72 = .ok (.ireturn, 1) := by decide +kernel
theorem dX10_count_0 : decode cX10_count 0 = .ok (.iload_n 1, 1) := by decide +kernel
theorem dX10_count_1 : decode cX10_count 1 = .ok (.tableswitch 93 0 6 #[43, 48, 56, 64, 69, 77, 85], 43) := by decide +kernel
theorem dX10_count_44 : decode cX10_count 44 = .ok (.aload_n 0, 1) := by decide +kernel
theorem dX10_count_45 : decode cX10_count 45 = .ok (.getfield 90, 3) := by decide +kernel
theorem dX10_count_48 : decode cX10_count 48 = .ok (.ireturn, 1) := by decide +kernel
theorem dX10_count_49 : decode cX10_count 49 = .ok (.aload_n 0, 1) := by decide +kernel
theorem dX10_count_50 : decode cX10_count 50 = .ok (.getfield 44, 3) := by decide +kernel
theorem dX10_count_53 : decode cX10_count 53 = .ok (.invokevirtual 168, 3) := by decide +kernel
theorem dX10_count_56 : decode cX10_count 56 = .ok (.ireturn, 1) := by decide +kernel
theorem dX10_count_57 : decode cX10_count 57 = .ok (.aload_n 0, 1) := by decide +kernel
theorem dX10_count_58 : decode cX10_count 58 = .ok (.getfield 10, 3) := by decide +kernel
theorem dX10_count_61 : decode cX10_count 61 = .ok (.invokevirtual 86, 3) := by decide +kernel
theorem dX10_count_64 : decode cX10_count 64 = .ok (.ireturn, 1) := by decide +kernel
theorem dX10_count_65 : decode cX10_count 65 = .ok (.aload_n 0, 1) := by decide +kernel
theorem dX10_count_66 : decode cX10_count 66 = .ok (.getfield 209, 3) := by decide +kernel
theorem dX10_count_69 : decode cX10_count 69 = .ok (.ireturn, 1) := by decide +kernel
theorem dX10_count_70 : decode cX10_count 70 = .ok (.aload_n 0, 1) := by decide +kernel
theorem dX10_count_71 : decode cX10_count 71 = .ok (.getfield 64, 3) := by decide +kernel
theorem dX10_count_74 : decode cX10_count 74 = .ok (.invokevirtual 266, 3) := by decide +kernel
theorem dX10_count_77 : decode cX10_count 77 = .ok (.ireturn, 1) := by decide +kernel
theorem dX10_count_78 : decode cX10_count 78 = .ok (.aload_n 0, 1) := by decide +kernel
theorem dX10_count_79 : decode cX10_count 79 = .ok (.getfield 71, 3) := by decide +kernel
theorem dX10_count_82 : decode cX10_count 82 = .ok (.invokevirtual 284, 3) := by decide +kernel
theorem dX10_count_85 : decode cX10_count 85 = .ok (.ireturn, 1) := by decide +kernel
theorem dX10_count_86 : decode cX10_count 86 = .ok (.aload_n 0, 1) := by decide +kernel
theorem dX10_count_87 : decode cX10_count 87 = .ok (.getfield 71, 3) := by decide +kernel
theorem dX10_count_90 : decode cX10_count 90 = .ok (.invokevirtual 340, 3) := by decide +kernel
theorem dX10_count_93 : decode cX10_count 93 = .ok (.ireturn, 1) := by decide +kernel
theorem dX10_count_94 : decode cX10_count 94 = .ok (.iconst (-1), 1) := by decide +kernel
theorem dX10_count_95 : decode cX10_count 95 = .ok (.ireturn, 1) := by decide +kernel
theorem dX10_isHead_0 : decode cX10_isHead 0 = .ok (.iload_n 1, 1) := by decide +kernel
theorem dX10_isHead_1 : decode cX10_isHead 1 = .ok (.ifCond .lt 15, 3) := by decide +kernel
theorem dX10_isHead_4 : decode cX10_isHead 4 = .ok (.iload_n 1, 1) := by decide +kernel
theorem dX10_isHead_5 : decode cX10_isHead 5 = .ok (.aload_n 0, 1) := by decide +kernel
theorem dX10_isHead_6 : decode cX10_isHead 6 = .ok (.getfield 90, 3) := by decide +kernel
theorem dX10_isHead_9 : decode cX10_isHead 9 = .ok (.if_icmp .ge 7, 3) := by decide +kernel
theorem dX10_isHead_12 : decode cX10_isHead 12 = .ok (.iconst 1, 1) := by decide +kernel
theorem dX10_isHead_13 : decode cX10_isHead 13 = .ok (.goto 4, 3) := by decide +kernel
theorem dX10_isHead_16 : decode cX10_isHead 16 = .ok (.iconst 0, 1) := by decide +kernel
theorem dX10_isHead_17 : decode cX10_isHead 17 = .ok (.ireturn, 1) := by decide +kernel
theorem dX10_isHeadAndWay_0 : decode cX10_isHeadAndWay 0 = .ok (.iload_n 1, 1) := by decide +kernel
theorem dX10_isHeadAndWay_1 : decode cX10_isHeadAndWay 1 = .ok (.ifCond .lt 27, 3) := by decide +kernel
theorem dX10_isHeadAndWay_4 : decode cX10_isHeadAndWay 4 = .ok (.iload_n 1, 1) := by decide +kernel
theorem dX10_isHeadAndWay_5 : decode cX10_isHeadAndWay 5 = .ok (.bipush 10, 2) := by decide +kernel
theorem dX10_isHeadAndWay_7 : decode cX10_isHeadAndWay 7 = .ok (.idiv, 1) := by decide +kernel
theorem dX10_isHeadAndWay_8 : decode cX10_isHeadAndWay 8 = .ok (.aload_n 0, 1) := by decide +kernel
theorem dX10_isHeadAndWay_9 : decode cX10_isHeadAndWay 9 = .ok (.getfield 90, 3) := by decide +kernel
theorem dX10_isHeadAndWay_12 : decode cX10_isHeadAndWay 12 = .ok (.if_icmp .ge 16, 3) := by decide +kernel
theorem dX10_isHeadAndWay_15 : decode cX10_isHeadAndWay 15 = .ok (.iload_n 1, 1) := by decide +kernel
theorem dX10_isHeadAndWay_16 : decode cX10_isHeadAndWay 16 = .ok (.bipush 10, 2) := by decide +kernel
theorem dX10_isHeadAndWay_18 : decode cX10_isHeadAndWay 18 = .ok (.irem, 1) := by decide +kernel
theorem dX10_isHeadAndWay_19 : decode cX10_isHeadAndWay 19 = .ok (.bipush 7, 2) := by decide +kernel
theorem dX10_isHeadAndWay_21 : decode cX10_isHeadAndWay 21 = .ok (.if_icmp .ge 7, 3) := by decide +kernel
theorem dX10_isHeadAndWay_24 : decode cX10_isHeadAndWay 24 = .ok (.iconst 1, 1) := by decide +kernel
theorem dX10_isHeadAndWay_25 : decode cX10_isHeadAndWay 25 = .ok (.goto 4, 3) := by decide +kernel
theorem dX10_isHeadAndWay_28 : decode cX10_isHeadAndWay 28 = .ok (.iconst 0, 1) := by decide +kernel
theorem dX10_isHeadAndWay_29 : decode cX10_isHeadAndWay 29 = .ok (.ireturn, 1) := by decide +kernel
theorem dX10_isShelf_0 : decode cX10_isShelf 0 = .ok (.iload_n 0, 1) := by decide +kernel
theorem dX10_isShelf_1 : decode cX10_isShelf 1 = .ok (.ifCond .lt 13, 3) := by decide +kernel
theorem dX10_isShelf_4 : decode cX10_isShelf 4 = .ok (.iload_n 0, 1) := by decide +kernel
theorem dX10_isShelf_5 : decode cX10_isShelf 5 = .ok (.bipush 6, 2) := by decide +kernel
theorem dX10_isShelf_7 : decode cX10_isShelf 7 = .ok (.if_icmp .ge 7, 3) := by decide +kernel
theorem dX10_isShelf_10 : decode cX10_isShelf 10 = .ok (.iconst 1, 1) := by decide +kernel
theorem dX10_isShelf_11 : decode cX10_isShelf 11 = .ok (.goto 4, 3) := by decide +kernel
theorem dX10_isShelf_14 : decode cX10_isShelf 14 = .ok (.iconst 0, 1) := by decide +kernel
theorem dX10_isShelf_15 : decode cX10_isShelf 15 = .ok (.ireturn, 1) := by decide +kernel
theorem dX10_isNumber_0 : decode cX10_isNumber 0 = .ok (.iload_n 0, 1) := by decide +kernel
theorem dX10_isNumber_1 : decode cX10_isNumber 1 = .ok (.iconst 1, 1) := by decide +kernel
theorem dX10_isNumber_2 : decode cX10_isNumber 2 = .ok (.if_icmp .lt 14, 3) := by decide +kernel
theorem dX10_isNumber_5 : decode cX10_isNumber 5 = .ok (.iload_n 0, 1) := by decide +kernel
theorem dX10_isNumber_6 : decode cX10_isNumber 6 = .ok (.sipush 9999, 3) := by decide +kernel
theorem dX10_isNumber_9 : decode cX10_isNumber 9 = .ok (.if_icmp .gt 7, 3) := by decide +kernel
theorem dX10_isNumber_12 : decode cX10_isNumber 12 = .ok (.iconst 1, 1) := by decide +kernel
theorem dX10_isNumber_13 : decode cX10_isNumber 13 = .ok (.goto 4, 3) := by decide +kernel
theorem dX10_isNumber_16 : decode cX10_isNumber 16 = .ok (.iconst 0, 1) := by decide +kernel
theorem dX10_isNumber_17 : decode cX10_isNumber 17 = .ok (.ireturn, 1) := by decide +kernel
theorem dX10_isPair_0 : decode cX10_isPair 0 = .ok (.iload_n 0, 1) := by decide +kernel
theorem dX10_isPair_1 : decode cX10_isPair 1 = .ok (.sipush 10000, 3) := by decide +kernel
theorem dX10_isPair_4 : decode cX10_isPair 4 = .ok (.idiv, 1) := by decide +kernel
theorem dX10_isPair_5 : decode cX10_isPair 5 = .ok (.invokestatic 343, 3) := by decide +kernel
theorem dX10_isPair_8 : decode cX10_isPair 8 = .ok (.ifCond .eq 18, 3) := by decide +kernel
theorem dX10_isPair_11 : decode cX10_isPair 11 = .ok (.iload_n 0, 1) := by decide +kernel
theorem dX10_isPair_12 : decode cX10_isPair 12 = .ok (.sipush 10000, 3) := by decide +kernel
theorem dX10_isPair_15 : decode cX10_isPair 15 = .ok (.irem, 1) := by decide +kernel
theorem dX10_isPair_16 : decode cX10_isPair 16 = .ok (.invokestatic 343, 3) := by decide +kernel
theorem dX10_isPair_19 : decode cX10_isPair 19 = .ok (.ifCond .eq 7, 3) := by decide +kernel
theorem dX10_isPair_22 : decode cX10_isPair 22 = .ok (.iconst 1, 1) := by decide +kernel
theorem dX10_isPair_23 : decode cX10_isPair 23 = .ok (.goto 4, 3) := by decide +kernel
theorem dX10_isPair_26 : decode cX10_isPair 26 = .ok (.iconst 0, 1) := by decide +kernel
theorem dX10_isPair_27 : decode cX10_isPair 27 = .ok (.ireturn, 1) := by decide +kernel
theorem dX10_canBeTaught_0 : decode cX10_canBeTaught 0 = .ok (.iload_n 0, 1) := by decide +kernel
theorem dX10_canBeTaught_1 : decode cX10_canBeTaught 1 = .ok (.sipush 10000, 3) := by decide +kernel
theorem dX10_canBeTaught_4 : decode cX10_canBeTaught 4 = .ok (.idiv, 1) := by decide +kernel
theorem dX10_canBeTaught_5 : decode cX10_canBeTaught 5 = .ok (.bipush 99, 2) := by decide +kernel
theorem dX10_canBeTaught_7 : decode cX10_canBeTaught 7 = .ok (.if_icmp .gt 17, 3) := by decide +kernel
theorem dX10_canBeTaught_10 : decode cX10_canBeTaught 10 = .ok (.iload_n 0, 1) := by decide +kernel
theorem dX10_canBeTaught_11 : decode cX10_canBeTaught 11 = .ok (.sipush 10000, 3) := by decide +kernel
theorem dX10_canBeTaught_14 : decode cX10_canBeTaught 14 = .ok (.irem, 1) := by decide +kernel
theorem dX10_canBeTaught_15 : decode cX10_canBeTaught 15 = .ok (.bipush 99, 2) := by decide +kernel
theorem dX10_canBeTaught_17 : decode cX10_canBeTaught 17 = .ok (.if_icmp .gt 7, 3) := by decide +kernel
theorem dX10_canBeTaught_20 : decode cX10_canBeTaught 20 = .ok (.iconst 1, 1) := by decide +kernel
theorem dX10_canBeTaught_21 : decode cX10_canBeTaught 21 = .ok (.goto 4, 3) := by decide +kernel
theorem dX10_canBeTaught_24 : decode cX10_canBeTaught 24 = .ok (.iconst 0, 1) := by decide +kernel
theorem dX10_canBeTaught_25 : decode cX10_canBeTaught 25 = .ok (.ireturn, 1) := by decide +kernel
theorem dX10_productOf_0 : decode cX10_productOf 0 = .ok (.iload_n 0, 1) := by decide +kernel
theorem dX10_productOf_1 : decode cX10_productOf 1 = .ok (.sipush 10000, 3) := by decide +kernel
theorem dX10_productOf_4 : decode cX10_productOf 4 = .ok (.idiv, 1) := by decide +kernel
theorem dX10_productOf_5 : decode cX10_productOf 5 = .ok (.iload_n 0, 1) := by decide +kernel
theorem dX10_productOf_6 : decode cX10_productOf 6 = .ok (.sipush 10000, 3) := by decide +kernel
theorem dX10_productOf_9 : decode cX10_productOf 9 = .ok (.irem, 1) := by decide +kernel
theorem dX10_productOf_10 : decode cX10_productOf 10 = .ok (.imul, 1) := by decide +kernel
theorem dX10_productOf_11 : decode cX10_productOf 11 = .ok (.ireturn, 1) := by decide +kernel
theorem dX10_reckonChosen_0 : decode cX10_reckonChosen 0 = .ok (.aload_n 0, 1) := by decide +kernel
theorem dX10_reckonChosen_1 : decode cX10_reckonChosen 1 = .ok (.getfield 30, 3) := by decide +kernel
theorem dX10_reckonChosen_4 : decode cX10_reckonChosen 4 = .ok (.aload_n 1, 1) := by decide +kernel
theorem dX10_reckonChosen_5 : decode cX10_reckonChosen 5 = .ok (.iload_n 2, 1) := by decide +kernel
theorem dX10_reckonChosen_6 : decode cX10_reckonChosen 6 = .ok (.invokevirtual 345, 3) := by decide +kernel
theorem dX10_reckonChosen_9 : decode cX10_reckonChosen 9 = .ok (.istore_n 3, 1) := by decide +kernel
theorem dX10_reckonChosen_10 : decode cX10_reckonChosen 10 = .ok (.aload_n 0, 1) := by decide +kernel
theorem dX10_reckonChosen_11 : decode cX10_reckonChosen 11 = .ok (.getfield 37, 3) := by decide +kernel
theorem dX10_reckonChosen_14 : decode cX10_reckonChosen 14 = .ok (.aload_n 1, 1) := by decide +kernel
theorem dX10_reckonChosen_15 : decode cX10_reckonChosen 15 = .ok (.iload_n 3, 1) := by decide +kernel
theorem dX10_reckonChosen_16 : decode cX10_reckonChosen 16 = .ok (.iload_n 2, 1) := by decide +kernel
theorem dX10_reckonChosen_17 : decode cX10_reckonChosen 17 = .ok (.invokevirtual 134, 3) := by decide +kernel
theorem dX10_reckonChosen_20 : decode cX10_reckonChosen 20 = .ok (.ifCond .eq 5, 3) := by decide +kernel
theorem dX10_reckonChosen_23 : decode cX10_reckonChosen 23 = .ok (.iload_n 3, 1) := by decide +kernel
theorem dX10_reckonChosen_24 : decode cX10_reckonChosen 24 = .ok (.ireturn, 1) := by decide +kernel
theorem dX10_reckonChosen_25 : decode cX10_reckonChosen 25 = .ok (.aload_n 0, 1) := by decide +kernel
theorem dX10_reckonChosen_26 : decode cX10_reckonChosen 26 = .ok (.getfield 37, 3) := by decide +kernel
theorem dX10_reckonChosen_29 : decode cX10_reckonChosen 29 = .ok (.aload_n 1, 1) := by decide +kernel
theorem dX10_reckonChosen_30 : decode cX10_reckonChosen 30 = .ok (.iconst 1, 1) := by decide +kernel
theorem dX10_reckonChosen_31 : decode cX10_reckonChosen 31 = .ok (.iload_n 2, 1) := by decide +kernel
theorem dX10_reckonChosen_32 : decode cX10_reckonChosen 32 = .ok (.invokevirtual 134, 3) := by decide +kernel
theorem dX10_reckonChosen_35 : decode cX10_reckonChosen 35 = .ok (.pop, 1) := by decide +kernel
theorem dX10_reckonChosen_36 : decode cX10_reckonChosen 36 = .ok (.iconst 1, 1) := by decide +kernel
theorem dX10_reckonChosen_37 : decode cX10_reckonChosen 37 = .ok (.ireturn, 1) := by decide +kernel
theorem dX10_spreadOf_0 : decode cX10_spreadOf 0 = .ok (.bipush (-2), 2) := by decide +kernel
theorem dX10_spreadOf_2 : decode cX10_spreadOf 2 = .ok (.istore 4, 2) := by decide +kernel
theorem dX10_spreadOf_4 : decode cX10_spreadOf 4 = .ok (.bipush (-2), 2) := by decide +kernel
theorem dX10_spreadOf_6 : decode cX10_spreadOf 6 = .ok (.istore 5, 2) := by decide +kernel
theorem dX10_spreadOf_8 : decode cX10_spreadOf 8 = .ok (.iconst 0, 1) := by decide +kernel
theorem dX10_spreadOf_9 : decode cX10_spreadOf 9 = .ok (.istore 6, 2) := by decide +kernel
theorem dX10_spreadOf_11 : decode cX10_spreadOf 11 = .ok (.iload 6, 2) := by decide +kernel
theorem dX10_spreadOf_13 : decode cX10_spreadOf 13 = .ok (.bipush 7, 2) := by decide +kernel
theorem dX10_spreadOf_15 : decode cX10_spreadOf 15 = .ok (.if_icmp .ge 74, 3) := by decide +kernel
theorem dX10_spreadOf_18 : decode cX10_spreadOf 18 = .ok (.iload_n 2, 1) := by decide +kernel
theorem dX10_spreadOf_19 : decode cX10_spreadOf 19 = .ok (.iload 6, 2) := by decide +kernel
theorem dX10_spreadOf_21 : decode cX10_spreadOf 21 = .ok (.ishr, 1) := by decide +kernel
theorem dX10_spreadOf_22 : decode cX10_spreadOf 22 = .ok (.iconst 1, 1) := by decide +kernel
theorem dX10_spreadOf_23 : decode cX10_spreadOf 23 = .ok (.iand, 1) := by decide +kernel
theorem dX10_spreadOf_24 : decode cX10_spreadOf 24 = .ok (.ifCond .eq 59, 3) := by decide +kernel
theorem dX10_spreadOf_27 : decode cX10_spreadOf 27 = .ok (.aload_n 0, 1) := by decide +kernel
theorem dX10_spreadOf_28 : decode cX10_spreadOf 28 = .ok (.getfield 37, 3) := by decide +kernel
theorem dX10_spreadOf_31 : decode cX10_spreadOf 31 = .ok (.aload_n 1, 1) := by decide +kernel
theorem dX10_spreadOf_32 : decode cX10_spreadOf 32 = .ok (.iload 6, 2) := by decide +kernel
theorem dX10_spreadOf_34 : decode cX10_spreadOf 34 = .ok (.iload_n 3, 1) := by decide +kernel
theorem dX10_spreadOf_35 : decode cX10_spreadOf 35 = .ok (.invokevirtual 134, 3) := by decide +kernel
theorem dX10_spreadOf_38 : decode cX10_spreadOf 38 = .ok (.ifCond .ne 6, 3) := by decide +kernel
theorem dX10_spreadOf_41 : decode cX10_spreadOf 41 = .ok (.goto 42, 3) := by decide +kernel
theorem dX10_spreadOf_44 : decode cX10_spreadOf 44 = .ok (.aload_n 0, 1) := by decide +kernel
theorem dX10_spreadOf_45 : decode cX10_spreadOf 45 = .ok (.getfield 37, 3) := by decide +kernel
theorem dX10_spreadOf_48 : decode cX10_spreadOf 48 = .ok (.invokevirtual 138, 3) := by decide +kernel
theorem dX10_spreadOf_51 : decode cX10_spreadOf 51 = .ok (.istore 7, 2) := by decide +kernel
theorem dX10_spreadOf_53 : decode cX10_spreadOf 53 = .ok (.iload 4, 2) := by decide +kernel
theorem dX10_spreadOf_55 : decode cX10_spreadOf 55 = .ok (.bipush (-2), 2) := by decide +kernel
theorem dX10_spreadOf_57 : decode cX10_spreadOf 57 = .ok (.if_icmp .ne 8, 3) := by decide +kernel
theorem dX10_spreadOf_60 : decode cX10_spreadOf 60 = .ok (.iload 7, 2) := by decide +kernel
theorem dX10_spreadOf_62 : decode cX10_spreadOf 62 = .ok (.goto 10, 3) := by decide +kernel
theorem dX10_spreadOf_65 : decode cX10_spreadOf 65 = .ok (.iload 4, 2) := by decide +kernel
theorem dX10_spreadOf_67 : decode cX10_spreadOf 67 = .ok (.iload 7, 2) := by decide +kernel
theorem dX10_spreadOf_69 : decode cX10_spreadOf 69 = .ok (.invokestatic 222, 3) := by decide +kernel
theorem dX10_spreadOf_72 : decode cX10_spreadOf 72 = .ok (.istore 4, 2) := by decide +kernel
theorem dX10_spreadOf_74 : decode cX10_spreadOf 74 = .ok (.iload 5, 2) := by decide +kernel
theorem dX10_spreadOf_76 : decode cX10_spreadOf 76 = .ok (.iload 7, 2) := by decide +kernel
theorem dX10_spreadOf_78 : decode cX10_spreadOf 78 = .ok (.invokestatic 348, 3) := by decide +kernel
theorem dX10_spreadOf_81 : decode cX10_spreadOf 81 = .ok (.istore 5, 2) := by decide +kernel
theorem dX10_spreadOf_83 : decode cX10_spreadOf 83 = .ok (.iinc 6 1, 3) := by decide +kernel
theorem dX10_spreadOf_86 : decode cX10_spreadOf 86 = .ok (.goto (-75), 3) := by decide +kernel
theorem dX10_spreadOf_89 : decode cX10_spreadOf 89 = .ok (.iload 4, 2) := by decide +kernel
theorem dX10_spreadOf_91 : decode cX10_spreadOf 91 = .ok (.bipush (-2), 2) := by decide +kernel
theorem dX10_spreadOf_93 : decode cX10_spreadOf 93 = .ok (.if_icmp .ne 8, 3) := by decide +kernel
theorem dX10_spreadOf_96 : decode cX10_spreadOf 96 = .ok (.bipush (-2), 2) := by decide +kernel
theorem dX10_spreadOf_98 : decode cX10_spreadOf 98 = .ok (.goto 8, 3) := by decide +kernel
theorem dX10_spreadOf_101 : decode cX10_spreadOf 101 = .ok (.iload 5, 2) := by decide +kernel
theorem dX10_spreadOf_103 : decode cX10_spreadOf 103 = .ok (.iload 4, 2) := by decide +kernel
theorem dX10_spreadOf_105 : decode cX10_spreadOf 105 = .ok (.isub, 1) := by decide +kernel
theorem dX10_spreadOf_106 : decode cX10_spreadOf 106 = .ok (.ireturn, 1) := by decide +kernel
theorem dX10_offOf_0 : decode cX10_offOf 0 = .ok (.aload_n 0, 1) := by decide +kernel
theorem dX10_offOf_1 : decode cX10_offOf 1 = .ok (.getfield 44, 3) := by decide +kernel
theorem dX10_offOf_4 : decode cX10_offOf 4 = .ok (.iload_n 1, 1) := by decide +kernel
theorem dX10_offOf_5 : decode cX10_offOf 5 = .ok (.invokevirtual 351, 3) := by decide +kernel
theorem dX10_offOf_8 : decode cX10_offOf 8 = .ok (.aload_n 0, 1) := by decide +kernel
theorem dX10_offOf_9 : decode cX10_offOf 9 = .ok (.getfield 44, 3) := by decide +kernel
theorem dX10_offOf_12 : decode cX10_offOf 12 = .ok (.iload_n 1, 1) := by decide +kernel
theorem dX10_offOf_13 : decode cX10_offOf 13 = .ok (.invokevirtual 188, 3) := by decide +kernel
theorem dX10_offOf_16 : decode cX10_offOf 16 = .ok (.invokestatic 155, 3) := by decide +kernel
theorem dX10_offOf_19 : decode cX10_offOf 19 = .ok (.isub, 1) := by decide +kernel
theorem dX10_offOf_20 : decode cX10_offOf 20 = .ok (.ireturn, 1) := by decide +kernel
theorem dX10_comesFrom_0 : decode cX10_comesFrom 0 = .ok (.lload_n 2, 1) := by decide +kernel
theorem dX10_comesFrom_1 : decode cX10_comesFrom 1 = .ok (.lconst 0, 1) := by decide +kernel
theorem dX10_comesFrom_2 : decode cX10_comesFrom 2 = .ok (.lcmp, 1) := by decide +kernel
theorem dX10_comesFrom_3 : decode cX10_comesFrom 3 = .ok (.ifCond .lt 17, 3) := by decide +kernel
theorem dX10_comesFrom_6 : decode cX10_comesFrom 6 = .ok (.lload_n 2, 1) := by decide +kernel
theorem dX10_comesFrom_7 : decode cX10_comesFrom 7 = .ok (.ldc2_w 354, 3) := by decide +kernel
theorem dX10_comesFrom_10 : decode cX10_comesFrom 10 = .ok (.ladd, 1) := by decide +kernel
theorem dX10_comesFrom_11 : decode cX10_comesFrom 11 = .ok (.aload_n 1, 1) := by decide +kernel
theorem dX10_comesFrom_12 : decode cX10_comesFrom 12 = .ok (.invokevirtual 356, 3) := by decide +kernel
theorem dX10_comesFrom_15 : decode cX10_comesFrom 15 = .ok (.i2l, 1) := by decide +kernel
theorem dX10_comesFrom_16 : decode cX10_comesFrom 16 = .ok (.lcmp, 1) := by decide +kernel
theorem dX10_comesFrom_17 : decode cX10_comesFrom 17 = .ok (.ifCond .lt 5, 3) := by decide +kernel
theorem dX10_comesFrom_20 : decode cX10_comesFrom 20 = .ok (.iconst 0, 1) := by decide +kernel
theorem dX10_comesFrom_21 : decode cX10_comesFrom 21 = .ok (.ireturn, 1) := by decide +kernel
theorem dX10_comesFrom_22 : decode cX10_comesFrom 22 = .ok (.lload_n 2, 1) := by decide +kernel
theorem dX10_comesFrom_23 : decode cX10_comesFrom 23 = .ok (.l2i, 1) := by decide +kernel
theorem dX10_comesFrom_24 : decode cX10_comesFrom 24 = .ok (.istore 4, 2) := by decide +kernel
theorem dX10_comesFrom_26 : decode cX10_comesFrom 26 = .ok (.aload_n 1, 1) := by decide +kernel
theorem dX10_comesFrom_27 : decode cX10_comesFrom 27 = .ok (.iload 4, 2) := by decide +kernel
theorem dX10_comesFrom_29 : decode cX10_comesFrom 29 = .ok (.invokevirtual 314, 3) := by decide +kernel
theorem dX10_comesFrom_32 : decode cX10_comesFrom 32 = .ok (.l2i, 1) := by decide +kernel
theorem dX10_comesFrom_33 : decode cX10_comesFrom 33 = .ok (.istore 5, 2) := by decide +kernel
theorem dX10_comesFrom_35 : decode cX10_comesFrom 35 = .ok (.aload_n 1, 1) := by decide +kernel
theorem dX10_comesFrom_36 : decode cX10_comesFrom 36 = .ok (.iload 4, 2) := by decide +kernel
theorem dX10_comesFrom_38 : decode cX10_comesFrom 38 = .ok (.iconst 1, 1) := by decide +kernel
theorem dX10_comesFrom_39 : decode cX10_comesFrom 39 = .ok (.iadd, 1) := by decide +kernel
theorem dX10_comesFrom_40 : decode cX10_comesFrom 40 = .ok (.invokevirtual 314, 3) := by decide +kernel
theorem dX10_comesFrom_43 : decode cX10_comesFrom 43 = .ok (.l2i, 1) := by decide +kernel
theorem dX10_comesFrom_44 : decode cX10_comesFrom 44 = .ok (.istore 6, 2) := by decide +kernel
theorem dX10_comesFrom_46 : decode cX10_comesFrom 46 = .ok (.aload_n 1, 1) := by decide +kernel
theorem dX10_comesFrom_47 : decode cX10_comesFrom 47 = .ok (.iload 4, 2) := by decide +kernel
theorem dX10_comesFrom_49 : decode cX10_comesFrom 49 = .ok (.iconst 2, 1) := by decide +kernel
theorem dX10_comesFrom_50 : decode cX10_comesFrom 50 = .ok (.iadd, 1) := by decide +kernel
theorem dX10_comesFrom_51 : decode cX10_comesFrom 51 = .ok (.invokevirtual 314, 3) := by decide +kernel
theorem dX10_comesFrom_54 : decode cX10_comesFrom 54 = .ok (.l2i, 1) := by decide +kernel
theorem dX10_comesFrom_55 : decode cX10_comesFrom 55 = .ok (.istore 7, 2) := by decide +kernel
theorem dX10_comesFrom_57 : decode cX10_comesFrom 57 = .ok (.aload_n 1, 1) := by decide +kernel
theorem dX10_comesFrom_58 : decode cX10_comesFrom 58 = .ok (.iload 4, 2) := by decide +kernel
theorem dX10_comesFrom_60 : decode cX10_comesFrom 60 = .ok (.iconst 3, 1) := by decide +kernel
theorem dX10_comesFrom_61 : decode cX10_comesFrom 61 = .ok (.iadd, 1) := by decide +kernel
theorem dX10_comesFrom_62 : decode cX10_comesFrom 62 = .ok (.invokevirtual 314, 3) := by decide +kernel
theorem dX10_comesFrom_65 : decode cX10_comesFrom 65 = .ok (.l2i, 1) := by decide +kernel
theorem dX10_comesFrom_66 : decode cX10_comesFrom 66 = .ok (.istore 8, 2) := by decide +kernel
theorem dX10_comesFrom_68 : decode cX10_comesFrom 68 = .ok (.iload 5, 2) := by decide +kernel
theorem dX10_comesFrom_70 : decode cX10_comesFrom 70 = .ok (.invokestatic 343, 3) := by decide +kernel
theorem dX10_comesFrom_73 : decode cX10_comesFrom 73 = .ok (.ifCond .eq 48, 3) := by decide +kernel
theorem dX10_comesFrom_76 : decode cX10_comesFrom 76 = .ok (.iload 6, 2) := by decide +kernel
theorem dX10_comesFrom_78 : decode cX10_comesFrom 78 = .ok (.invokestatic 343, 3) := by decide +kernel
theorem dX10_comesFrom_81 : decode cX10_comesFrom 81 = .ok (.ifCond .eq 40, 3) := by decide +kernel
theorem dX10_comesFrom_84 : decode cX10_comesFrom 84 = .ok (.iload 7, 2) := by decide +kernel
theorem dX10_comesFrom_86 : decode cX10_comesFrom 86 = .ok (.iload 8, 2) := by decide +kernel
theorem dX10_comesFrom_88 : decode cX10_comesFrom 88 = .ok (.invokestatic 164, 3) := by decide +kernel
theorem dX10_comesFrom_91 : decode cX10_comesFrom 91 = .ok (.ifCond .eq 30, 3) := by decide +kernel
theorem dX10_comesFrom_94 : decode cX10_comesFrom 94 = .ok (.aload_n 0, 1) := by decide +kernel
theorem dX10_comesFrom_95 : decode cX10_comesFrom 95 = .ok (.getfield 44, 3) := by decide +kernel
theorem dX10_comesFrom_98 : decode cX10_comesFrom 98 = .ok (.iload 5, 2) := by decide +kernel
theorem dX10_comesFrom_100 : decode cX10_comesFrom 100 = .ok (.sipush 10000, 3) := by decide +kernel
theorem dX10_comesFrom_103 : decode cX10_comesFrom 103 = .ok (.imul, 1) := by decide +kernel
theorem dX10_comesFrom_104 : decode cX10_comesFrom 104 = .ok (.iload 6, 2) := by decide +kernel
theorem dX10_comesFrom_106 : decode cX10_comesFrom 106 = .ok (.iadd, 1) := by decide +kernel
theorem dX10_comesFrom_107 : decode cX10_comesFrom 107 = .ok (.iload 7, 2) := by decide +kernel
theorem dX10_comesFrom_109 : decode cX10_comesFrom 109 = .ok (.iload 8, 2) := by decide +kernel
theorem dX10_comesFrom_111 : decode cX10_comesFrom 111 = .ok (.invokevirtual 165, 3) := by decide +kernel
theorem dX10_comesFrom_114 : decode cX10_comesFrom 114 = .ok (.ifCond .eq 7, 3) := by decide +kernel
theorem dX10_comesFrom_117 : decode cX10_comesFrom 117 = .ok (.iconst 1, 1) := by decide +kernel
theorem dX10_comesFrom_118 : decode cX10_comesFrom 118 = .ok (.goto 4, 3) := by decide +kernel
theorem dX10_comesFrom_121 : decode cX10_comesFrom 121 = .ok (.iconst 0, 1) := by decide +kernel
theorem dX10_comesFrom_122 : decode cX10_comesFrom 122 = .ok (.ireturn, 1) := by decide +kernel
theorem dX10_fitsAll_0 : decode cX10_fitsAll 0 = .ok (.iconst 0, 1) := by decide +kernel
theorem dX10_fitsAll_1 : decode cX10_fitsAll 1 = .ok (.istore 4, 2) := by decide +kernel
theorem dX10_fitsAll_3 : decode cX10_fitsAll 3 = .ok (.iload 4, 2) := by decide +kernel
theorem dX10_fitsAll_5 : decode cX10_fitsAll 5 = .ok (.aload_n 0, 1) := by decide +kernel
theorem dX10_fitsAll_6 : decode cX10_fitsAll 6 = .ok (.getfield 44, 3) := by decide +kernel
theorem dX10_fitsAll_9 : decode cX10_fitsAll 9 = .ok (.invokevirtual 168, 3) := by decide +kernel
theorem dX10_fitsAll_12 : decode cX10_fitsAll 12 = .ok (.if_icmp .ge 97, 3) := by decide +kernel
theorem dX10_fitsAll_15 : decode cX10_fitsAll 15 = .ok (.aload_n 0, 1) := by decide +kernel
theorem dX10_fitsAll_16 : decode cX10_fitsAll 16 = .ok (.getfield 37, 3) := by decide +kernel
theorem dX10_fitsAll_19 : decode cX10_fitsAll 19 = .ok (.aload_n 1, 1) := by decide +kernel
theorem dX10_fitsAll_20 : decode cX10_fitsAll 20 = .ok (.iload_n 2, 1) := by decide +kernel
theorem dX10_fitsAll_21 : decode cX10_fitsAll 21 = .ok (.aload_n 0, 1) := by decide +kernel
theorem dX10_fitsAll_22 : decode cX10_fitsAll 22 = .ok (.getfield 44, 3) := by decide +kernel
theorem dX10_fitsAll_25 : decode cX10_fitsAll 25 = .ok (.iload 4, 2) := by decide +kernel
theorem dX10_fitsAll_27 : decode cX10_fitsAll 27 = .ok (.invokevirtual 188, 3) := by decide +kernel
theorem dX10_fitsAll_30 : decode cX10_fitsAll 30 = .ok (.invokevirtual 134, 3) := by decide +kernel
theorem dX10_fitsAll_33 : decode cX10_fitsAll 33 = .ok (.ifCond .ne 5, 3) := by decide +kernel
theorem dX10_fitsAll_36 : decode cX10_fitsAll 36 = .ok (.iconst 0, 1) := by decide +kernel
theorem dX10_fitsAll_37 : decode cX10_fitsAll 37 = .ok (.ireturn, 1) := by decide +kernel
theorem dX10_fitsAll_38 : decode cX10_fitsAll 38 = .ok (.aload_n 0, 1) := by decide +kernel
theorem dX10_fitsAll_39 : decode cX10_fitsAll 39 = .ok (.iload 4, 2) := by decide +kernel
theorem dX10_fitsAll_41 : decode cX10_fitsAll 41 = .ok (.invokevirtual 194, 3) := by decide +kernel
theorem dX10_fitsAll_44 : decode cX10_fitsAll 44 = .ok (.istore 5, 2) := by decide +kernel
theorem dX10_fitsAll_46 : decode cX10_fitsAll 46 = .ok (.iload 5, 2) := by decide +kernel
theorem dX10_fitsAll_48 : decode cX10_fitsAll 48 = .ok (.ifCond .eq 17, 3) := by decide +kernel
theorem dX10_fitsAll_51 : decode cX10_fitsAll 51 = .ok (.aload_n 0, 1) := by decide +kernel
theorem dX10_fitsAll_52 : decode cX10_fitsAll 52 = .ok (.getfield 37, 3) := by decide +kernel
theorem dX10_fitsAll_55 : decode cX10_fitsAll 55 = .ok (.iload 5, 2) := by decide +kernel
theorem dX10_fitsAll_57 : decode cX10_fitsAll 57 = .ok (.invokevirtual 203, 3) := by decide +kernel
theorem dX10_fitsAll_60 : decode cX10_fitsAll 60 = .ok (.bipush (-2), 2) := by decide +kernel
theorem dX10_fitsAll_62 : decode cX10_fitsAll 62 = .ok (.if_icmp .eq 7, 3) := by decide +kernel
theorem dX10_fitsAll_65 : decode cX10_fitsAll 65 = .ok (.iconst 1, 1) := by decide +kernel
theorem dX10_fitsAll_66 : decode cX10_fitsAll 66 = .ok (.goto 4, 3) := by decide +kernel
theorem dX10_fitsAll_69 : decode cX10_fitsAll 69 = .ok (.iconst 0, 1) := by decide +kernel
theorem dX10_fitsAll_70 : decode cX10_fitsAll 70 = .ok (.istore 6, 2) := by decide +kernel
theorem dX10_fitsAll_72 : decode cX10_fitsAll 72 = .ok (.iload 6, 2) := by decide +kernel
theorem dX10_fitsAll_74 : decode cX10_fitsAll 74 = .ok (.ifCond .eq 27, 3) := by decide +kernel
theorem dX10_fitsAll_77 : decode cX10_fitsAll 77 = .ok (.aload_n 0, 1) := by decide +kernel
theorem dX10_fitsAll_78 : decode cX10_fitsAll 78 = .ok (.getfield 37, 3) := by decide +kernel
theorem dX10_fitsAll_81 : decode cX10_fitsAll 81 = .ok (.invokevirtual 138, 3) := by decide +kernel
theorem dX10_fitsAll_84 : decode cX10_fitsAll 84 = .ok (.aload_n 0, 1) := by decide +kernel
theorem dX10_fitsAll_85 : decode cX10_fitsAll 85 = .ok (.getfield 44, 3) := by decide +kernel
theorem dX10_fitsAll_88 : decode cX10_fitsAll 88 = .ok (.iload 4, 2) := by decide +kernel
theorem dX10_fitsAll_90 : decode cX10_fitsAll 90 = .ok (.invokevirtual 191, 3) := by decide +kernel
theorem dX10_fitsAll_93 : decode cX10_fitsAll 93 = .ok (.isub, 1) := by decide +kernel
theorem dX10_fitsAll_94 : decode cX10_fitsAll 94 = .ok (.invokestatic 357, 3) := by decide +kernel
theorem dX10_fitsAll_97 : decode cX10_fitsAll 97 = .ok (.iload_n 3, 1) := by decide +kernel
theorem dX10_fitsAll_98 : decode cX10_fitsAll 98 = .ok (.if_icmp .le 5, 3) := by decide +kernel
theorem dX10_fitsAll_101 : decode cX10_fitsAll 101 = .ok (.iconst 0, 1) := by decide +kernel
theorem dX10_fitsAll_102 : decode cX10_fitsAll 102 = .ok (.ireturn, 1) := by decide +kernel
theorem dX10_fitsAll_103 : decode cX10_fitsAll 103 = .ok (.iinc 4 1, 3) := by decide +kernel
theorem dX10_fitsAll_106 : decode cX10_fitsAll 106 = .ok (.goto (-103), 3) := by decide +kernel
theorem dX10_fitsAll_109 : decode cX10_fitsAll 109 = .ok (.iconst 1, 1) := by decide +kernel
theorem dX10_fitsAll_110 : decode cX10_fitsAll 110 = .ok (.ireturn, 1) := by decide +kernel
theorem dX10_sumOfDifferences_0 : decode cX10_sumOfDifferences 0 = .ok (.iconst 0, 1) := by decide +kernel
theorem dX10_sumOfDifferences_1 : decode cX10_sumOfDifferences 1 = .ok (.istore_n 3, 1) := by decide +kernel
theorem dX10_sumOfDifferences_2 : decode cX10_sumOfDifferences 2 = .ok (.iconst 0, 1) := by decide +kernel
theorem dX10_sumOfDifferences_3 : decode cX10_sumOfDifferences 3 = .ok (.istore 4, 2) := by decide +kernel
theorem dX10_sumOfDifferences_5 : decode cX10_sumOfDifferences 5 = .ok (.iload 4, 2) := by decide +kernel
theorem dX10_sumOfDifferences_7 : decode cX10_sumOfDifferences 7 = .ok (.aload_n 0, 1) := by decide +kernel
theorem dX10_sumOfDifferences_8 : decode cX10_sumOfDifferences 8 = .ok (.getfield 44, 3) := by decide +kernel
theorem dX10_sumOfDifferences_11 : decode cX10_sumOfDifferences 11 = .ok (.invokevirtual 168, 3) := by decide +kernel
theorem dX10_sumOfDifferences_14 : decode cX10_sumOfDifferences 14 = .ok (.if_icmp .ge 80, 3) := by decide +kernel
theorem dX10_sumOfDifferences_17 : decode cX10_sumOfDifferences 17 = .ok (.iload_n 2, 1) := by decide +kernel
theorem dX10_sumOfDifferences_18 : decode cX10_sumOfDifferences 18 = .ok (.bipush 7, 2) := by decide +kernel
theorem dX10_sumOfDifferences_20 : decode cX10_sumOfDifferences 20 = .ok (.if_icmp .ne 21, 3) := by decide +kernel
theorem dX10_sumOfDifferences_23 : decode cX10_sumOfDifferences 23 = .ok (.aload_n 0, 1) := by decide +kernel
theorem dX10_sumOfDifferences_24 : decode cX10_sumOfDifferences 24 = .ok (.aload_n 1, 1) := by decide +kernel
theorem dX10_sumOfDifferences_25 : decode cX10_sumOfDifferences 25 = .ok (.aload_n 0, 1) := by decide +kernel
theorem dX10_sumOfDifferences_26 : decode cX10_sumOfDifferences 26 = .ok (.getfield 44, 3) := by decide +kernel
theorem dX10_sumOfDifferences_29 : decode cX10_sumOfDifferences 29 = .ok (.iload 4, 2) := by decide +kernel
theorem dX10_sumOfDifferences_31 : decode cX10_sumOfDifferences 31 = .ok (.invokevirtual 188, 3) := by decide +kernel
theorem dX10_sumOfDifferences_34 : decode cX10_sumOfDifferences 34 = .ok (.invokevirtual 151, 3) := by decide +kernel
theorem dX10_sumOfDifferences_37 : decode cX10_sumOfDifferences 37 = .ok (.pop, 1) := by decide +kernel
theorem dX10_sumOfDifferences_38 : decode cX10_sumOfDifferences 38 = .ok (.goto 27, 3) := by decide +kernel
theorem dX10_sumOfDifferences_41 : decode cX10_sumOfDifferences 41 = .ok (.aload_n 0, 1) := by decide +kernel
theorem dX10_sumOfDifferences_42 : decode cX10_sumOfDifferences 42 = .ok (.getfield 37, 3) := by decide +kernel
theorem dX10_sumOfDifferences_45 : decode cX10_sumOfDifferences 45 = .ok (.aload_n 1, 1) := by decide +kernel
theorem dX10_sumOfDifferences_46 : decode cX10_sumOfDifferences 46 = .ok (.iload_n 2, 1) := by decide +kernel
theorem dX10_sumOfDifferences_47 : decode cX10_sumOfDifferences 47 = .ok (.aload_n 0, 1) := by decide +kernel
theorem dX10_sumOfDifferences_48 : decode cX10_sumOfDifferences 48 = .ok (.getfield 44, 3) := by decide +kernel
theorem dX10_sumOfDifferences_51 : decode cX10_sumOfDifferences 51 = .ok (.iload 4, 2) := by decide +kernel
theorem dX10_sumOfDifferences_53 : decode cX10_sumOfDifferences 53 = .ok (.invokevirtual 188, 3) := by decide +kernel
theorem dX10_sumOfDifferences_56 : decode cX10_sumOfDifferences 56 = .ok (.invokevirtual 134, 3) := by decide +kernel
theorem dX10_sumOfDifferences_59 : decode cX10_sumOfDifferences 59 = .ok (.ifCond .ne 6, 3) := by decide +kernel
theorem dX10_sumOfDifferences_62 : decode cX10_sumOfDifferences 62 = .ok (.bipush (-2), 2) := by decide +kernel
theorem dX10_sumOfDifferences_64 : decode cX10_sumOfDifferences 64 = .ok (.ireturn, 1) := by decide +kernel
theorem dX10_sumOfDifferences_65 : decode cX10_sumOfDifferences 65 = .ok (.iload_n 3, 1) := by decide +kernel
theorem dX10_sumOfDifferences_66 : decode cX10_sumOfDifferences 66 = .ok (.aload_n 0, 1) := by decide +kernel
theorem dX10_sumOfDifferences_67 : decode cX10_sumOfDifferences 67 = .ok (.getfield 37, 3) := by decide +kernel
theorem dX10_sumOfDifferences_70 : decode cX10_sumOfDifferences 70 = .ok (.invokevirtual 138, 3) := by decide +kernel
theorem dX10_sumOfDifferences_73 : decode cX10_sumOfDifferences 73 = .ok (.aload_n 0, 1) := by decide +kernel
theorem dX10_sumOfDifferences_74 : decode cX10_sumOfDifferences 74 = .ok (.getfield 44, 3) := by decide +kernel
theorem dX10_sumOfDifferences_77 : decode cX10_sumOfDifferences 77 = .ok (.iload 4, 2) := by decide +kernel
theorem dX10_sumOfDifferences_79 : decode cX10_sumOfDifferences 79 = .ok (.invokevirtual 191, 3) := by decide +kernel
theorem dX10_sumOfDifferences_82 : decode cX10_sumOfDifferences 82 = .ok (.isub, 1) := by decide +kernel
theorem dX10_sumOfDifferences_83 : decode cX10_sumOfDifferences 83 = .ok (.invokestatic 357, 3) := by decide +kernel
theorem dX10_sumOfDifferences_86 : decode cX10_sumOfDifferences 86 = .ok (.iadd, 1) := by decide +kernel
theorem dX10_sumOfDifferences_87 : decode cX10_sumOfDifferences 87 = .ok (.istore_n 3, 1) := by decide +kernel
theorem dX10_sumOfDifferences_88 : decode cX10_sumOfDifferences 88 = .ok (.iinc 4 1, 3) := by decide +kernel
theorem dX10_sumOfDifferences_91 : decode cX10_sumOfDifferences 91 = .ok (.goto (-86), 3) := by decide +kernel
theorem dX10_sumOfDifferences_94 : decode cX10_sumOfDifferences 94 = .ok (.iload_n 3, 1) := by decide +kernel
theorem dX10_sumOfDifferences_95 : decode cX10_sumOfDifferences 95 = .ok (.ireturn, 1) := by decide +kernel
theorem dX10_allToldCanBeTaught_0 : decode cX10_allToldCanBeTaught 0 = .ok (.iconst 0, 1) := by decide +kernel
theorem dX10_allToldCanBeTaught_1 : decode cX10_allToldCanBeTaught 1 = .ok (.istore_n 1, 1) := by decide +kernel
theorem dX10_allToldCanBeTaught_2 : decode cX10_allToldCanBeTaught 2 = .ok (.iload_n 1, 1) := by decide +kernel
theorem dX10_allToldCanBeTaught_3 : decode cX10_allToldCanBeTaught 3 = .ok (.aload_n 0, 1) := by decide +kernel
theorem dX10_allToldCanBeTaught_4 : decode cX10_allToldCanBeTaught 4 = .ok (.getfield 209, 3) := by decide +kernel
theorem dX10_allToldCanBeTaught_7 : decode cX10_allToldCanBeTaught 7 = .ok (.if_icmp .ge 23, 3) := by decide +kernel
theorem dX10_allToldCanBeTaught_10 : decode cX10_allToldCanBeTaught 10 = .ok (.aload_n 0, 1) := by decide +kernel
theorem dX10_allToldCanBeTaught_11 : decode cX10_allToldCanBeTaught 11 = .ok (.getfield 48, 3) := by decide +kernel
theorem dX10_allToldCanBeTaught_14 : decode cX10_allToldCanBeTaught 14 = .ok (.iload_n 1, 1) := by decide +kernel
theorem dX10_allToldCanBeTaught_15 : decode cX10_allToldCanBeTaught 15 = .ok (.iaload, 1) := by decide +kernel
theorem dX10_allToldCanBeTaught_16 : decode cX10_allToldCanBeTaught 16 = .ok (.invokestatic 360, 3) := by decide +kernel
theorem dX10_allToldCanBeTaught_19 : decode cX10_allToldCanBeTaught 19 = .ok (.ifCond .ne 5, 3) := by decide +kernel
theorem dX10_allToldCanBeTaught_22 : decode cX10_allToldCanBeTaught 22 = .ok (.iconst 0, 1) := by decide +kernel
theorem dX10_allToldCanBeTaught_23 : decode cX10_allToldCanBeTaught 23 = .ok (.ireturn, 1) := by decide +kernel
theorem dX10_allToldCanBeTaught_24 : decode cX10_allToldCanBeTaught 24 = .ok (.iinc 1 1, 3) := by decide +kernel
theorem dX10_allToldCanBeTaught_27 : decode cX10_allToldCanBeTaught 27 = .ok (.goto (-25), 3) := by decide +kernel
theorem dX10_allToldCanBeTaught_30 : decode cX10_allToldCanBeTaught 30 = .ok (.iconst 1, 1) := by decide +kernel
theorem dX10_allToldCanBeTaught_31 : decode cX10_allToldCanBeTaught 31 = .ok (.ireturn, 1) := by decide +kernel
theorem dX10_prepareOrders_0 : decode cX10_prepareOrders 0 = .ok (.iconst 0, 1) := by decide +kernel
theorem dX10_prepareOrders_1 : decode cX10_prepareOrders 1 = .ok (.istore_n 3, 1) := by decide +kernel
theorem dX10_prepareOrders_2 : decode cX10_prepareOrders 2 = .ok (.iload_n 3, 1) := by decide +kernel
theorem dX10_prepareOrders_3 : decode cX10_prepareOrders 3 = .ok (.iload_n 2, 1) := by decide +kernel
theorem dX10_prepareOrders_4 : decode cX10_prepareOrders 4 = .ok (.if_icmp .ge 109, 3) := by decide +kernel
theorem dX10_prepareOrders_7 : decode cX10_prepareOrders 7 = .ok (.aload_n 0, 1) := by decide +kernel
theorem dX10_prepareOrders_8 : decode cX10_prepareOrders 8 = .ok (.getfield 58, 3) := by decide +kernel
theorem dX10_prepareOrders_11 : decode cX10_prepareOrders 11 = .ok (.iload_n 3, 1) := by decide +kernel
theorem dX10_prepareOrders_12 : decode cX10_prepareOrders 12 = .ok (.iload_n 3, 1) := by decide +kernel
theorem dX10_prepareOrders_13 : decode cX10_prepareOrders 13 = .ok (.iastore, 1) := by decide +kernel
theorem dX10_prepareOrders_14 : decode cX10_prepareOrders 14 = .ok (.aload_n 0, 1) := by decide +kernel
theorem dX10_prepareOrders_15 : decode cX10_prepareOrders 15 = .ok (.getfield 23, 3) := by decide +kernel
theorem dX10_prepareOrders_18 : decode cX10_prepareOrders 18 = .ok (.aload_n 1, 1) := by decide +kernel
theorem dX10_prepareOrders_19 : decode cX10_prepareOrders 19 = .ok (.invokevirtual 101, 3) := by decide +kernel
theorem dX10_prepareOrders_22 : decode cX10_prepareOrders 22 = .ok (.aload_n 0, 1) := by decide +kernel
theorem dX10_prepareOrders_23 : decode cX10_prepareOrders 23 = .ok (.aload_n 0, 1) := by decide +kernel
theorem dX10_prepareOrders_24 : decode cX10_prepareOrders 24 = .ok (.getfield 23, 3) := by decide +kernel
theorem dX10_prepareOrders_27 : decode cX10_prepareOrders 27 = .ok (.aload_n 0, 1) := by decide +kernel
theorem dX10_prepareOrders_28 : decode cX10_prepareOrders 28 = .ok (.getfield 48, 3) := by decide +kernel
theorem dX10_prepareOrders_31 : decode cX10_prepareOrders 31 = .ok (.iload_n 3, 1) := by decide +kernel
theorem dX10_prepareOrders_32 : decode cX10_prepareOrders 32 = .ok (.iaload, 1) := by decide +kernel
theorem dX10_prepareOrders_33 : decode cX10_prepareOrders 33 = .ok (.invokevirtual 151, 3) := by decide +kernel
theorem dX10_prepareOrders_36 : decode cX10_prepareOrders 36 = .ok (.pop, 1) := by decide +kernel
theorem dX10_prepareOrders_37 : decode cX10_prepareOrders 37 = .ok (.aload_n 0, 1) := by decide +kernel
theorem dX10_prepareOrders_38 : decode cX10_prepareOrders 38 = .ok (.getfield 52, 3) := by decide +kernel
theorem dX10_prepareOrders_41 : decode cX10_prepareOrders 41 = .ok (.iload_n 3, 1) := by decide +kernel
theorem dX10_prepareOrders_42 : decode cX10_prepareOrders 42 = .ok (.aload_n 0, 1) := by decide +kernel
theorem dX10_prepareOrders_43 : decode cX10_prepareOrders 43 = .ok (.getfield 37, 3) := by decide +kernel
theorem dX10_prepareOrders_46 : decode cX10_prepareOrders 46 = .ok (.invokevirtual 138, 3) := by decide +kernel
theorem dX10_prepareOrders_49 : decode cX10_prepareOrders 49 = .ok (.iastore, 1) := by decide +kernel
theorem dX10_prepareOrders_50 : decode cX10_prepareOrders 50 = .ok (.iconst 0, 1) := by decide +kernel
theorem dX10_prepareOrders_51 : decode cX10_prepareOrders 51 = .ok (.istore 4, 2) := by decide +kernel
theorem dX10_prepareOrders_53 : decode cX10_prepareOrders 53 = .ok (.iload 4, 2) := by decide +kernel
theorem dX10_prepareOrders_55 : decode cX10_prepareOrders 55 = .ok (.iconst 3, 1) := by decide +kernel
theorem dX10_prepareOrders_56 : decode cX10_prepareOrders 56 = .ok (.if_icmp .ge 23, 3) := by decide +kernel
theorem dX10_prepareOrders_59 : decode cX10_prepareOrders 59 = .ok (.aload_n 0, 1) := by decide +kernel
theorem dX10_prepareOrders_60 : decode cX10_prepareOrders 60 = .ok (.getfield 23, 3) := by decide +kernel
theorem dX10_prepareOrders_63 : decode cX10_prepareOrders 63 = .ok (.aload_n 0, 1) := by decide +kernel
theorem dX10_prepareOrders_64 : decode cX10_prepareOrders 64 = .ok (.getfield 48, 3) := by decide +kernel
theorem dX10_prepareOrders_67 : decode cX10_prepareOrders 67 = .ok (.iload_n 3, 1) := by decide +kernel
theorem dX10_prepareOrders_68 : decode cX10_prepareOrders 68 = .ok (.iaload, 1) := by decide +kernel
theorem dX10_prepareOrders_69 : decode cX10_prepareOrders 69 = .ok (.invokevirtual 216, 3) := by decide +kernel
theorem dX10_prepareOrders_72 : decode cX10_prepareOrders 72 = .ok (.pop, 1) := by decide +kernel
theorem dX10_prepareOrders_73 : decode cX10_prepareOrders 73 = .ok (.iinc 4 1, 3) := by decide +kernel
theorem dX10_prepareOrders_76 : decode cX10_prepareOrders 76 = .ok (.goto (-23), 3) := by decide +kernel
theorem dX10_prepareOrders_79 : decode cX10_prepareOrders 79 = .ok (.aload_n 0, 1) := by decide +kernel
theorem dX10_prepareOrders_80 : decode cX10_prepareOrders 80 = .ok (.aload_n 0, 1) := by decide +kernel
theorem dX10_prepareOrders_81 : decode cX10_prepareOrders 81 = .ok (.getfield 23, 3) := by decide +kernel
theorem dX10_prepareOrders_84 : decode cX10_prepareOrders 84 = .ok (.aload_n 0, 1) := by decide +kernel
theorem dX10_prepareOrders_85 : decode cX10_prepareOrders 85 = .ok (.getfield 48, 3) := by decide +kernel
theorem dX10_prepareOrders_88 : decode cX10_prepareOrders 88 = .ok (.iload_n 3, 1) := by decide +kernel
theorem dX10_prepareOrders_89 : decode cX10_prepareOrders 89 = .ok (.iaload, 1) := by decide +kernel
theorem dX10_prepareOrders_90 : decode cX10_prepareOrders 90 = .ok (.invokevirtual 151, 3) := by decide +kernel
theorem dX10_prepareOrders_93 : decode cX10_prepareOrders 93 = .ok (.pop, 1) := by decide +kernel
theorem dX10_prepareOrders_94 : decode cX10_prepareOrders 94 = .ok (.aload_n 0, 1) := by decide +kernel
theorem dX10_prepareOrders_95 : decode cX10_prepareOrders 95 = .ok (.getfield 55, 3) := by decide +kernel
theorem dX10_prepareOrders_98 : decode cX10_prepareOrders 98 = .ok (.iload_n 3, 1) := by decide +kernel
theorem dX10_prepareOrders_99 : decode cX10_prepareOrders 99 = .ok (.aload_n 0, 1) := by decide +kernel
theorem dX10_prepareOrders_100 : decode cX10_prepareOrders 100 = .ok (.getfield 37, 3) := by decide +kernel
theorem dX10_prepareOrders_103 : decode cX10_prepareOrders 103 = .ok (.invokevirtual 138, 3) := by decide +kernel
theorem dX10_prepareOrders_106 : decode cX10_prepareOrders 106 = .ok (.iastore, 1) := by decide +kernel
theorem dX10_prepareOrders_107 : decode cX10_prepareOrders 107 = .ok (.iinc 3 1, 3) := by decide +kernel
theorem dX10_prepareOrders_110 : decode cX10_prepareOrders 110 = .ok (.goto (-108), 3) := by decide +kernel
theorem dX10_prepareOrders_113 : decode cX10_prepareOrders 113 = .ok (.return_, 1) := by decide +kernel
theorem dX10_secondsOfOrder_0 : decode cX10_secondsOfOrder 0 = .ok (.aload_n 0, 1) := by decide +kernel
theorem dX10_secondsOfOrder_1 : decode cX10_secondsOfOrder 1 = .ok (.getfield 23, 3) := by decide +kernel
theorem dX10_secondsOfOrder_4 : decode cX10_secondsOfOrder 4 = .ok (.aload_n 1, 1) := by decide +kernel
theorem dX10_secondsOfOrder_5 : decode cX10_secondsOfOrder 5 = .ok (.invokevirtual 101, 3) := by decide +kernel
theorem dX10_secondsOfOrder_8 : decode cX10_secondsOfOrder 8 = .ok (.iconst 0, 1) := by decide +kernel
theorem dX10_secondsOfOrder_9 : decode cX10_secondsOfOrder 9 = .ok (.istore_n 3, 1) := by decide +kernel
theorem dX10_secondsOfOrder_10 : decode cX10_secondsOfOrder 10 = .ok (.iconst 0, 1) := by decide +kernel
theorem dX10_secondsOfOrder_11 : decode cX10_secondsOfOrder 11 = .ok (.istore 4, 2) := by decide +kernel
theorem dX10_secondsOfOrder_13 : decode cX10_secondsOfOrder 13 = .ok (.iload 4, 2) := by decide +kernel
theorem dX10_secondsOfOrder_15 : decode cX10_secondsOfOrder 15 = .ok (.iload_n 2, 1) := by decide +kernel
theorem dX10_secondsOfOrder_16 : decode cX10_secondsOfOrder 16 = .ok (.if_icmp .ge 83, 3) := by decide +kernel
theorem dX10_secondsOfOrder_19 : decode cX10_secondsOfOrder 19 = .ok (.aload_n 0, 1) := by decide +kernel
theorem dX10_secondsOfOrder_20 : decode cX10_secondsOfOrder 20 = .ok (.getfield 58, 3) := by decide +kernel
theorem dX10_secondsOfOrder_23 : decode cX10_secondsOfOrder 23 = .ok (.iload 4, 2) := by decide +kernel
theorem dX10_secondsOfOrder_25 : decode cX10_secondsOfOrder 25 = .ok (.iaload, 1) := by decide +kernel
theorem dX10_secondsOfOrder_26 : decode cX10_secondsOfOrder 26 = .ok (.istore 5, 2) := by decide +kernel
theorem dX10_secondsOfOrder_28 : decode cX10_secondsOfOrder 28 = .ok (.iconst 0, 1) := by decide +kernel
theorem dX10_secondsOfOrder_29 : decode cX10_secondsOfOrder 29 = .ok (.istore 6, 2) := by decide +kernel
theorem dX10_secondsOfOrder_31 : decode cX10_secondsOfOrder 31 = .ok (.iload 6, 2) := by decide +kernel
theorem dX10_secondsOfOrder_33 : decode cX10_secondsOfOrder 33 = .ok (.iconst 3, 1) := by decide +kernel
theorem dX10_secondsOfOrder_34 : decode cX10_secondsOfOrder 34 = .ok (.if_icmp .ge 59, 3) := by decide +kernel
theorem dX10_secondsOfOrder_37 : decode cX10_secondsOfOrder 37 = .ok (.aload_n 0, 1) := by decide +kernel
theorem dX10_secondsOfOrder_38 : decode cX10_secondsOfOrder 38 = .ok (.getfield 23, 3) := by decide +kernel
theorem dX10_secondsOfOrder_41 : decode cX10_secondsOfOrder 41 = .ok (.aload_n 0, 1) := by decide +kernel
theorem dX10_secondsOfOrder_42 : decode cX10_secondsOfOrder 42 = .ok (.getfield 48, 3) := by decide +kernel
theorem dX10_secondsOfOrder_45 : decode cX10_secondsOfOrder 45 = .ok (.iload 5, 2) := by decide +kernel
theorem dX10_secondsOfOrder_47 : decode cX10_secondsOfOrder 47 = .ok (.iaload, 1) := by decide +kernel
theorem dX10_secondsOfOrder_48 : decode cX10_secondsOfOrder 48 = .ok (.invokevirtual 216, 3) := by decide +kernel
theorem dX10_secondsOfOrder_51 : decode cX10_secondsOfOrder 51 = .ok (.iconst 3, 1) := by decide +kernel
theorem dX10_secondsOfOrder_52 : decode cX10_secondsOfOrder 52 = .ok (.if_icmp .le 7, 3) := by decide +kernel
theorem dX10_secondsOfOrder_55 : decode cX10_secondsOfOrder 55 = .ok (.iconst 1, 1) := by decide +kernel
theorem dX10_secondsOfOrder_56 : decode cX10_secondsOfOrder 56 = .ok (.goto 4, 3) := by decide +kernel
theorem dX10_secondsOfOrder_59 : decode cX10_secondsOfOrder 59 = .ok (.iconst 0, 1) := by decide +kernel
theorem dX10_secondsOfOrder_60 : decode cX10_secondsOfOrder 60 = .ok (.istore 7, 2) := by decide +kernel
theorem dX10_secondsOfOrder_62 : decode cX10_secondsOfOrder 62 = .ok (.iload_n 3, 1) := by decide +kernel
theorem dX10_secondsOfOrder_63 : decode cX10_secondsOfOrder 63 = .ok (.iload 7, 2) := by decide +kernel
theorem dX10_secondsOfOrder_65 : decode cX10_secondsOfOrder 65 = .ok (.ifCond .eq 13, 3) := by decide +kernel
theorem dX10_secondsOfOrder_68 : decode cX10_secondsOfOrder 68 = .ok (.aload_n 0, 1) := by decide +kernel
theorem dX10_secondsOfOrder_69 : decode cX10_secondsOfOrder 69 = .ok (.getfield 55, 3) := by decide +kernel
theorem dX10_secondsOfOrder_72 : decode cX10_secondsOfOrder 72 = .ok (.iload 5, 2) := by decide +kernel
theorem dX10_secondsOfOrder_74 : decode cX10_secondsOfOrder 74 = .ok (.iaload, 1) := by decide +kernel
theorem dX10_secondsOfOrder_75 : decode cX10_secondsOfOrder 75 = .ok (.goto 10, 3) := by decide +kernel
theorem dX10_secondsOfOrder_78 : decode cX10_secondsOfOrder 78 = .ok (.aload_n 0, 1) := by decide +kernel
theorem dX10_secondsOfOrder_79 : decode cX10_secondsOfOrder 79 = .ok (.getfield 52, 3) := by decide +kernel
theorem dX10_secondsOfOrder_82 : decode cX10_secondsOfOrder 82 = .ok (.iload 5, 2) := by decide +kernel
theorem dX10_secondsOfOrder_84 : decode cX10_secondsOfOrder 84 = .ok (.iaload, 1) := by decide +kernel
theorem dX10_secondsOfOrder_85 : decode cX10_secondsOfOrder 85 = .ok (.iadd, 1) := by decide +kernel
theorem dX10_secondsOfOrder_86 : decode cX10_secondsOfOrder 86 = .ok (.istore_n 3, 1) := by decide +kernel
theorem dX10_secondsOfOrder_87 : decode cX10_secondsOfOrder 87 = .ok (.iinc 6 1, 3) := by decide +kernel
theorem dX10_secondsOfOrder_90 : decode cX10_secondsOfOrder 90 = .ok (.goto (-59), 3) := by decide +kernel
theorem dX10_secondsOfOrder_93 : decode cX10_secondsOfOrder 93 = .ok (.iinc 4 1, 3) := by decide +kernel
theorem dX10_secondsOfOrder_96 : decode cX10_secondsOfOrder 96 = .ok (.goto (-83), 3) := by decide +kernel
theorem dX10_secondsOfOrder_99 : decode cX10_secondsOfOrder 99 = .ok (.iload_n 3, 1) := by decide +kernel
theorem dX10_secondsOfOrder_100 : decode cX10_secondsOfOrder 100 = .ok (.ireturn, 1) := by decide +kernel
theorem dX10_orderAsDigits_0 : decode cX10_orderAsDigits 0 = .ok (.iconst 0, 1) := by decide +kernel
theorem dX10_orderAsDigits_1 : decode cX10_orderAsDigits 1 = .ok (.istore_n 2, 1) := by decide +kernel
theorem dX10_orderAsDigits_2 : decode cX10_orderAsDigits 2 = .ok (.iconst 0, 1) := by decide +kernel
theorem dX10_orderAsDigits_3 : decode cX10_orderAsDigits 3 = .ok (.istore_n 3, 1) := by decide +kernel
theorem dX10_orderAsDigits_4 : decode cX10_orderAsDigits 4 = .ok (.iload_n 3, 1) := by decide +kernel
theorem dX10_orderAsDigits_5 : decode cX10_orderAsDigits 5 = .ok (.iload_n 1, 1) := by decide +kernel
theorem dX10_orderAsDigits_6 : decode cX10_orderAsDigits 6 = .ok (.if_icmp .ge 23, 3) := by decide +kernel
theorem dX10_orderAsDigits_9 : decode cX10_orderAsDigits 9 = .ok (.iload_n 2, 1) := by decide +kernel
theorem dX10_orderAsDigits_10 : decode cX10_orderAsDigits 10 = .ok (.bipush 10, 2) := by decide +kernel
theorem dX10_orderAsDigits_12 : decode cX10_orderAsDigits 12 = .ok (.imul, 1) := by decide +kernel
theorem dX10_orderAsDigits_13 : decode cX10_orderAsDigits 13 = .ok (.aload_n 0, 1) := by decide +kernel
theorem dX10_orderAsDigits_14 : decode cX10_orderAsDigits 14 = .ok (.getfield 58, 3) := by decide +kernel
theorem dX10_orderAsDigits_17 : decode cX10_orderAsDigits 17 = .ok (.iload_n 3, 1) := by decide +kernel
theorem dX10_orderAsDigits_18 : decode cX10_orderAsDigits 18 = .ok (.iaload, 1) := by decide +kernel
theorem dX10_orderAsDigits_19 : decode cX10_orderAsDigits 19 = .ok (.iadd, 1) := by decide +kernel
theorem dX10_orderAsDigits_20 : decode cX10_orderAsDigits 20 = .ok (.iconst 1, 1) := by decide +kernel
theorem dX10_orderAsDigits_21 : decode cX10_orderAsDigits 21 = .ok (.iadd, 1) := by decide +kernel
theorem dX10_orderAsDigits_22 : decode cX10_orderAsDigits 22 = .ok (.istore_n 2, 1) := by decide +kernel
theorem dX10_orderAsDigits_23 : decode cX10_orderAsDigits 23 = .ok (.iinc 3 1, 3) := by decide +kernel
theorem dX10_orderAsDigits_26 : decode cX10_orderAsDigits 26 = .ok (.goto (-22), 3) := by decide +kernel
theorem dX10_orderAsDigits_29 : decode cX10_orderAsDigits 29 = .ok (.iload_n 2, 1) := by decide +kernel
theorem dX10_orderAsDigits_30 : decode cX10_orderAsDigits 30 = .ok (.ireturn, 1) := by decide +kernel
theorem dX10_nextOrder_0 : decode cX10_nextOrder 0 = .ok (.iload_n 1, 1) := by decide +kernel
theorem dX10_nextOrder_1 : decode cX10_nextOrder 1 = .ok (.iconst 2, 1) := by decide +kernel
theorem dX10_nextOrder_2 : decode cX10_nextOrder 2 = .ok (.isub, 1) := by decide +kernel
theorem dX10_nextOrder_3 : decode cX10_nextOrder 3 = .ok (.istore_n 2, 1) := by decide +kernel
theorem dX10_nextOrder_4 : decode cX10_nextOrder 4 = .ok (.iload_n 2, 1) := by decide +kernel
theorem dX10_nextOrder_5 : decode cX10_nextOrder 5 = .ok (.ifCond .lt 26, 3) := by decide +kernel
theorem dX10_nextOrder_8 : decode cX10_nextOrder 8 = .ok (.aload_n 0, 1) := by decide +kernel
theorem dX10_nextOrder_9 : decode cX10_nextOrder 9 = .ok (.getfield 58, 3) := by decide +kernel
theorem dX10_nextOrder_12 : decode cX10_nextOrder 12 = .ok (.iload_n 2, 1) := by decide +kernel
theorem dX10_nextOrder_13 : decode cX10_nextOrder 13 = .ok (.iaload, 1) := by decide +kernel
theorem dX10_nextOrder_14 : decode cX10_nextOrder 14 = .ok (.aload_n 0, 1) := by decide +kernel
theorem dX10_nextOrder_15 : decode cX10_nextOrder 15 = .ok (.getfield 58, 3) := by decide +kernel
theorem dX10_nextOrder_18 : decode cX10_nextOrder 18 = .ok (.iload_n 2, 1) := by decide +kernel
theorem dX10_nextOrder_19 : decode cX10_nextOrder 19 = .ok (.iconst 1, 1) := by decide +kernel
theorem dX10_nextOrder_20 : decode cX10_nextOrder 20 = .ok (.iadd, 1) := by decide +kernel
theorem dX10_nextOrder_21 : decode cX10_nextOrder 21 = .ok (.iaload, 1) := by decide +kernel
theorem dX10_nextOrder_22 : decode cX10_nextOrder 22 = .ok (.if_icmp .le 9, 3) := by decide +kernel
theorem dX10_nextOrder_25 : decode cX10_nextOrder 25 = .ok (.iinc 2 (-1), 3) := by decide +kernel
theorem dX10_nextOrder_28 : decode cX10_nextOrder 28 = .ok (.goto (-24), 3) := by decide +kernel
theorem dX10_nextOrder_31 : decode cX10_nextOrder 31 = .ok (.iload_n 2, 1) := by decide +kernel
theorem dX10_nextOrder_32 : decode cX10_nextOrder 32 = .ok (.ifCond .ge 5, 3) := by decide +kernel
theorem dX10_nextOrder_35 : decode cX10_nextOrder 35 = .ok (.iconst 0, 1) := by decide +kernel
theorem dX10_nextOrder_36 : decode cX10_nextOrder 36 = .ok (.ireturn, 1) := by decide +kernel
theorem dX10_nextOrder_37 : decode cX10_nextOrder 37 = .ok (.iload_n 1, 1) := by decide +kernel
theorem dX10_nextOrder_38 : decode cX10_nextOrder 38 = .ok (.iconst 1, 1) := by decide +kernel
theorem dX10_nextOrder_39 : decode cX10_nextOrder 39 = .ok (.isub, 1) := by decide +kernel
theorem dX10_nextOrder_40 : decode cX10_nextOrder 40 = .ok (.istore_n 3, 1) := by decide +kernel
theorem dX10_nextOrder_41 : decode cX10_nextOrder 41 = .ok (.iload_n 3, 1) := by decide +kernel
theorem dX10_nextOrder_42 : decode cX10_nextOrder 42 = .ok (.iload_n 2, 1) := by decide +kernel
theorem dX10_nextOrder_43 : decode cX10_nextOrder 43 = .ok (.iconst 1, 1) := by decide +kernel
theorem dX10_nextOrder_44 : decode cX10_nextOrder 44 = .ok (.iadd, 1) := by decide +kernel
theorem dX10_nextOrder_45 : decode cX10_nextOrder 45 = .ok (.if_icmp .le 24, 3) := by decide +kernel
theorem dX10_nextOrder_48 : decode cX10_nextOrder 48 = .ok (.aload_n 0, 1) := by decide +kernel
theorem dX10_nextOrder_49 : decode cX10_nextOrder 49 = .ok (.getfield 58, 3) := by decide +kernel
theorem dX10_nextOrder_52 : decode cX10_nextOrder 52 = .ok (.iload_n 3, 1) := by decide +kernel
theorem dX10_nextOrder_53 : decode cX10_nextOrder 53 = .ok (.iaload, 1) := by decide +kernel
theorem dX10_nextOrder_54 : decode cX10_nextOrder 54 = .ok (.aload_n 0, 1) := by decide +kernel
theorem dX10_nextOrder_55 : decode cX10_nextOrder 55 = .ok (.getfield 58, 3) := by decide +kernel
theorem dX10_nextOrder_58 : decode cX10_nextOrder 58 = .ok (.iload_n 2, 1) := by decide +kernel
theorem dX10_nextOrder_59 : decode cX10_nextOrder 59 = .ok (.iaload, 1) := by decide +kernel
theorem dX10_nextOrder_60 : decode cX10_nextOrder 60 = .ok (.if_icmp .ge 9, 3) := by decide +kernel
theorem dX10_nextOrder_63 : decode cX10_nextOrder 63 = .ok (.iinc 3 (-1), 3) := by decide +kernel
theorem dX10_nextOrder_66 : decode cX10_nextOrder 66 = .ok (.goto (-25), 3) := by decide +kernel
theorem dX10_nextOrder_69 : decode cX10_nextOrder 69 = .ok (.aload_n 0, 1) := by decide +kernel
theorem dX10_nextOrder_70 : decode cX10_nextOrder 70 = .ok (.iload_n 2, 1) := by decide +kernel
theorem dX10_nextOrder_71 : decode cX10_nextOrder 71 = .ok (.iload_n 3, 1) := by decide +kernel
theorem dX10_nextOrder_72 : decode cX10_nextOrder 72 = .ok (.invokevirtual 363, 3) := by decide +kernel
theorem dX10_nextOrder_75 : decode cX10_nextOrder 75 = .ok (.iload_n 2, 1) := by decide +kernel
theorem dX10_nextOrder_76 : decode cX10_nextOrder 76 = .ok (.iconst 1, 1) := by decide +kernel
theorem dX10_nextOrder_77 : decode cX10_nextOrder 77 = .ok (.iadd, 1) := by decide +kernel
theorem dX10_nextOrder_78 : decode cX10_nextOrder 78 = .ok (.istore 4, 2) := by decide +kernel
theorem dX10_nextOrder_80 : decode cX10_nextOrder 80 = .ok (.iload_n 1, 1) := by decide +kernel
theorem dX10_nextOrder_81 : decode cX10_nextOrder 81 = .ok (.iconst 1, 1) := by decide +kernel
theorem dX10_nextOrder_82 : decode cX10_nextOrder 82 = .ok (.isub, 1) := by decide +kernel
theorem dX10_nextOrder_83 : decode cX10_nextOrder 83 = .ok (.istore 5, 2) := by decide +kernel
theorem dX10_nextOrder_85 : decode cX10_nextOrder 85 = .ok (.iload 4, 2) := by decide +kernel
theorem dX10_nextOrder_87 : decode cX10_nextOrder 87 = .ok (.iload 5, 2) := by decide +kernel
theorem dX10_nextOrder_89 : decode cX10_nextOrder 89 = .ok (.if_icmp .ge 20, 3) := by decide +kernel
theorem dX10_nextOrder_92 : decode cX10_nextOrder 92 = .ok (.aload_n 0, 1) := by decide +kernel
theorem dX10_nextOrder_93 : decode cX10_nextOrder 93 = .ok (.iload 4, 2) := by decide +kernel
theorem dX10_nextOrder_95 : decode cX10_nextOrder 95 = .ok (.iload 5, 2) := by decide +kernel
theorem dX10_nextOrder_97 : decode cX10_nextOrder 97 = .ok (.invokevirtual 363, 3) := by decide +kernel
theorem dX10_nextOrder_100 : decode cX10_nextOrder 100 = .ok (.iinc 4 1, 3) := by decide +kernel
theorem dX10_nextOrder_103 : decode cX10_nextOrder 103 = .ok (.iinc 5 (-1), 3) := by decide +kernel
theorem dX10_nextOrder_106 : decode cX10_nextOrder 106 = .ok (.goto (-21), 3) := by decide +kernel
theorem dX10_nextOrder_109 : decode cX10_nextOrder 109 = .ok (.iconst 1, 1) := by decide +kernel
theorem dX10_nextOrder_110 : decode cX10_nextOrder 110 = .ok (.ireturn, 1) := by decide +kernel
theorem dX10_swapPlaces_0 : decode cX10_swapPlaces 0 = .ok (.aload_n 0, 1) := by decide +kernel
theorem dX10_swapPlaces_1 : decode cX10_swapPlaces 1 = .ok (.getfield 58, 3) := by decide +kernel
theorem dX10_swapPlaces_4 : decode cX10_swapPlaces 4 = .ok (.iload_n 1, 1) := by decide +kernel
theorem dX10_swapPlaces_5 : decode cX10_swapPlaces 5 = .ok (.iaload, 1) := by decide +kernel
theorem dX10_swapPlaces_6 : decode cX10_swapPlaces 6 = .ok (.istore_n 3, 1) := by decide +kernel
theorem dX10_swapPlaces_7 : decode cX10_swapPlaces 7 = .ok (.aload_n 0, 1) := by decide +kernel
theorem dX10_swapPlaces_8 : decode cX10_swapPlaces 8 = .ok (.getfield 58, 3) := by decide +kernel
theorem dX10_swapPlaces_11 : decode cX10_swapPlaces 11 = .ok (.iload_n 1, 1) := by decide +kernel
theorem dX10_swapPlaces_12 : decode cX10_swapPlaces 12 = .ok (.aload_n 0, 1) := by decide +kernel
theorem dX10_swapPlaces_13 : decode cX10_swapPlaces 13 = .ok (.getfield 58, 3) := by decide +kernel
theorem dX10_swapPlaces_16 : decode cX10_swapPlaces 16 = .ok (.iload_n 2, 1) := by decide +kernel
theorem dX10_swapPlaces_17 : decode cX10_swapPlaces 17 = .ok (.iaload, 1) := by decide +kernel
theorem dX10_swapPlaces_18 : decode cX10_swapPlaces 18 = .ok (.iastore, 1) := by decide +kernel
theorem dX10_swapPlaces_19 : decode cX10_swapPlaces 19 = .ok (.aload_n 0, 1) := by decide +kernel
theorem dX10_swapPlaces_20 : decode cX10_swapPlaces 20 = .ok (.getfield 58, 3) := by decide +kernel
theorem dX10_swapPlaces_23 : decode cX10_swapPlaces 23 = .ok (.iload_n 2, 1) := by decide +kernel
theorem dX10_swapPlaces_24 : decode cX10_swapPlaces 24 = .ok (.iload_n 3, 1) := by decide +kernel
theorem dX10_swapPlaces_25 : decode cX10_swapPlaces 25 = .ok (.iastore, 1) := by decide +kernel
theorem dX10_swapPlaces_26 : decode cX10_swapPlaces 26 = .ok (.return_, 1) := by decide +kernel
theorem dX10_refusalAt_0 : decode cX10_refusalAt 0 = .ok (.iload_n 1, 1) := by decide +kernel
theorem dX10_refusalAt_1 : decode cX10_refusalAt 1 = .ok (.invokestatic 169, 3) := by decide +kernel
theorem dX10_refusalAt_4 : decode cX10_refusalAt 4 = .ok (.ifCond .ne 5, 3) := by decide +kernel
theorem dX10_refusalAt_7 : decode cX10_refusalAt 7 = .ok (.iconst (-1), 1) := by decide +kernel
theorem dX10_refusalAt_8 : decode cX10_refusalAt 8 = .ok (.ireturn, 1) := by decide +kernel
theorem dX10_refusalAt_9 : decode cX10_refusalAt 9 = .ok (.aload_n 0, 1) := by decide +kernel
theorem dX10_refusalAt_10 : decode cX10_refusalAt 10 = .ok (.getfield 77, 3) := by decide +kernel
theorem dX10_refusalAt_13 : decode cX10_refusalAt 13 = .ok (.iload_n 1, 1) := by decide +kernel
theorem dX10_refusalAt_14 : decode cX10_refusalAt 14 = .ok (.aaload, 1) := by decide +kernel
theorem dX10_refusalAt_15 : decode cX10_refusalAt 15 = .ok (.invokevirtual 172, 3) := by decide +kernel
theorem dX10_refusalAt_18 : decode cX10_refusalAt 18 = .ok (.ifCond .eq 6, 3) := by decide +kernel
theorem dX10_refusalAt_21 : decode cX10_refusalAt 21 = .ok (.bipush (-11), 2) := by decide +kernel
theorem dX10_refusalAt_23 : decode cX10_refusalAt 23 = .ok (.ireturn, 1) := by decide +kernel
theorem dX10_refusalAt_24 : decode cX10_refusalAt 24 = .ok (.aload_n 0, 1) := by decide +kernel
theorem dX10_refusalAt_25 : decode cX10_refusalAt 25 = .ok (.getfield 77, 3) := by decide +kernel
theorem dX10_refusalAt_28 : decode cX10_refusalAt 28 = .ok (.iload_n 1, 1) := by decide +kernel
theorem dX10_refusalAt_29 : decode cX10_refusalAt 29 = .ok (.aaload, 1) := by decide +kernel
theorem dX10_refusalAt_30 : decode cX10_refusalAt 30 = .ok (.invokevirtual 318, 3) := by decide +kernel
theorem dX10_refusalAt_33 : decode cX10_refusalAt 33 = .ok (.ifCond .ne 6, 3) := by decide +kernel
theorem dX10_refusalAt_36 : decode cX10_refusalAt 36 = .ok (.bipush (-12), 2) := by decide +kernel
theorem dX10_refusalAt_38 : decode cX10_refusalAt 38 = .ok (.ireturn, 1) := by decide +kernel
theorem dX10_refusalAt_39 : decode cX10_refusalAt 39 = .ok (.aload_n 0, 1) := by decide +kernel
theorem dX10_refusalAt_40 : decode cX10_refusalAt 40 = .ok (.getfield 77, 3) := by decide +kernel
theorem dX10_refusalAt_43 : decode cX10_refusalAt 43 = .ok (.iload_n 1, 1) := by decide +kernel
theorem dX10_refusalAt_44 : decode cX10_refusalAt 44 = .ok (.aaload, 1) := by decide +kernel
theorem dX10_refusalAt_45 : decode cX10_refusalAt 45 = .ok (.iload_n 2, 1) := by decide +kernel
theorem dX10_refusalAt_46 : decode cX10_refusalAt 46 = .ok (.iconst 1, 1) := by decide +kernel
theorem dX10_refusalAt_47 : decode cX10_refusalAt 47 = .ok (.invokevirtual 324, 3) := by decide +kernel
theorem dX10_refusalAt_50 : decode cX10_refusalAt 50 = .ok (.ifCond .eq 7, 3) := by decide +kernel
theorem dX10_refusalAt_53 : decode cX10_refusalAt 53 = .ok (.iconst 0, 1) := by decide +kernel
theorem dX10_refusalAt_54 : decode cX10_refusalAt 54 = .ok (.goto 5, 3) := by decide +kernel
theorem dX10_refusalAt_57 : decode cX10_refusalAt 57 = .ok (.bipush (-13), 2) := by decide +kernel
theorem dX10_refusalAt_59 : decode cX10_refusalAt 59 = .ok (.ireturn, 1) := by decide +kernel
