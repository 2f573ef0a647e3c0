theorem dX0_init_0 : decode cX0_init 0 = .ok (.aload_n 0, 1) := by decide +kernel
theorem dX0_init_1 : decode cX0_init 1 = .ok (.invokespecial 3, 3) := by decide +kernel
theorem dX0_init_4 : decode cX0_init 4 = .ok (.aload_n 0, 1) := by decide +kernel
theorem dX0_init_5 : decode cX0_init 5 = .ok (.bipush 80, 2) := by decide +kernel
theorem dX0_init_7 : decode cX0_init 7 = .ok (.newarray .int, 2) := by decide +kernel
theorem dX0_init_9 : decode cX0_init 9 = .ok (.putfield 11, 3) := by decide +kernel
theorem dX0_init_12 : decode cX0_init 12 = .ok (.aload_n 0, 1) := by decide +kernel
theorem dX0_init_13 : decode cX0_init 13 = .ok (.bipush 80, 2) := by decide +kernel
theorem dX0_init_15 : decode cX0_init 15 = .ok (.newarray .int, 2) := by decide +kernel
theorem dX0_init_17 : decode cX0_init 17 = .ok (.putfield 15, 3) := by decide +kernel
theorem dX0_init_20 : decode cX0_init 20 = .ok (.aload_n 0, 1) := by decide +kernel
theorem dX0_init_21 : decode cX0_init 21 = .ok (.bipush 80, 2) := by decide +kernel
theorem dX0_init_23 : decode cX0_init 23 = .ok (.newarray .int, 2) := by decide +kernel
theorem dX0_init_25 : decode cX0_init 25 = .ok (.putfield 18, 3) := by decide +kernel
theorem dX0_init_28 : decode cX0_init 28 = .ok (.aload_n 0, 1) := by decide +kernel
theorem dX0_init_29 : decode cX0_init 29 = .ok (.bipush 80, 2) := by decide +kernel
theorem dX0_init_31 : decode cX0_init 31 = .ok (.newarray .int, 2) := by decide +kernel
theorem dX0_init_33 : decode cX0_init 33 = .ok (.putfield 21, 3) := by decide +kernel
theorem dX0_init_36 : decode cX0_init 36 = .ok (.aload_n 0, 1) := by decide +kernel
theorem dX0_init_37 : decode cX0_init 37 = .ok (.bipush 80, 2) := by decide +kernel
theorem dX0_init_39 : decode cX0_init 39 = .ok (.newarray .int, 2) := by decide +kernel
theorem dX0_init_41 : decode cX0_init 41 = .ok (.putfield 24, 3) := by decide +kernel
theorem dX0_init_44 : decode cX0_init 44 = .ok (.aload_n 0, 1) := by decide +kernel
theorem dX0_init_45 : decode cX0_init 45 = .ok (.iconst 4, 1) := by decide +kernel
theorem dX0_init_46 : decode cX0_init 46 = .ok (.newarray .int, 2) := by decide +kernel
theorem dX0_init_48 : decode cX0_init 48 = .ok (.putfield 27, 3) := by decide +kernel
theorem dX0_init_51 : decode cX0_init 51 = .ok (.return_, 1) := by decide +kernel
theorem dX0_size_0 : decode cX0_size 0 = .ok (.aload_n 0, 1) := by decide +kernel
theorem dX0_size_1 : decode cX0_size 1 = .ok (.getfield 30, 3) := by decide +kernel
theorem dX0_size_4 : decode cX0_size 4 = .ok (.ireturn, 1) := by decide +kernel
theorem dX0_seconds_0 : decode cX0_seconds 0 = .ok (.aload_n 0, 1) := by decide +kernel
theorem dX0_seconds_1 : decode cX0_seconds 1 = .ok (.getfield 34, 3) := by decide +kernel
theorem dX0_seconds_4 : decode cX0_seconds 4 = .ok (.ireturn, 1) := by decide +kernel
theorem dX0_holds_0 : decode cX0_holds 0 = .ok (.aload_n 0, 1) := by decide +kernel
theorem dX0_holds_1 : decode cX0_holds 1 = .ok (.getfield 37, 3) := by decide +kernel
theorem dX0_holds_4 : decode cX0_holds 4 = .ok (.ireturn, 1) := by decide +kernel
theorem dX0_told_0 : decode cX0_told 0 = .ok (.iload_n 1, 1) := by decide +kernel
theorem dX0_told_1 : decode cX0_told 1 = .ok (.ifCond .lt 11, 3) := by decide +kernel
theorem dX0_told_4 : decode cX0_told 4 = .ok (.iload_n 1, 1) := by decide +kernel
theorem dX0_told_5 : decode cX0_told 5 = .ok (.aload_n 0, 1) := by decide +kernel
theorem dX0_told_6 : decode cX0_told 6 = .ok (.getfield 30, 3) := by decide +kernel
theorem dX0_told_9 : decode cX0_told 9 = .ok (.if_icmp .lt 6, 3) := by decide +kernel
theorem dX0_told_12 : decode cX0_told 12 = .ok (.ldc 40, 2) := by decide +kernel
theorem dX0_told_14 : decode cX0_told 14 = .ok (.ireturn, 1) := by decide +kernel
theorem dX0_told_15 : decode cX0_told 15 = .ok (.iload_n 2, 1) := by decide +kernel
theorem dX0_told_16 : decode cX0_told 16 = .ok (.tableswitch 49 0 2 #[28, 35, 42], 28) := by decide +kernel
theorem dX0_told_44 : decode cX0_told 44 = .ok (.aload_n 0, 1) := by decide +kernel
theorem dX0_told_45 : decode cX0_told 45 = .ok (.getfield 11, 3) := by decide +kernel
theorem dX0_told_48 : decode cX0_told 48 = .ok (.iload_n 1, 1) := by decide +kernel
theorem dX0_told_49 : decode cX0_told 49 = .ok (.iaload, 1) := by decide +kernel
theorem dX0_told_50 : decode cX0_told 50 = .ok (.ireturn, 1) := by decide +kernel
theorem dX0_told_51 : decode cX0_told 51 = .ok (.aload_n 0, 1) := by decide +kernel
theorem dX0_told_52 : decode cX0_told 52 = .ok (.getfield 15, 3) := by decide +kernel
theorem dX0_told_55 : decode cX0_told 55 = .ok (.iload_n 1, 1) := by decide +kernel
theorem dX0_told_56 : decode cX0_told 56 = .ok (.iaload, 1) := by decide +kernel
theorem dX0_told_57 : decode cX0_told 57 = .ok (.ireturn, 1) := by decide +kernel
theorem dX0_told_58 : decode cX0_told 58 = .ok (.aload_n 0, 1) := by decide +kernel
theorem dX0_told_59 : decode cX0_told 59 = .ok (.getfield 18, 3) := by decide +kernel
theorem dX0_told_62 : decode cX0_told 62 = .ok (.iload_n 1, 1) := by decide +kernel
theorem dX0_told_63 : decode cX0_told 63 = .ok (.iaload, 1) := by decide +kernel
theorem dX0_told_64 : decode cX0_told 64 = .ok (.ireturn, 1) := by decide +kernel
theorem dX0_told_65 : decode cX0_told 65 = .ok (.aload_n 0, 1) := by decide +kernel
theorem dX0_told_66 : decode cX0_told 66 = .ok (.getfield 21, 3) := by decide +kernel
theorem dX0_told_69 : decode cX0_told 69 = .ok (.iload_n 1, 1) := by decide +kernel
theorem dX0_told_70 : decode cX0_told 70 = .ok (.iaload, 1) := by decide +kernel
theorem dX0_told_71 : decode cX0_told 71 = .ok (.ireturn, 1) := by decide +kernel
theorem dX0_reckon_0 : decode cX0_reckon 0 = .ok (.iload_n 3, 1) := by decide +kernel
theorem dX0_reckon_1 : decode cX0_reckon 1 = .ok (.sipush 10000, 3) := by decide +kernel
theorem dX0_reckon_4 : decode cX0_reckon 4 = .ok (.idiv, 1) := by decide +kernel
theorem dX0_reckon_5 : decode cX0_reckon 5 = .ok (.istore 4, 2) := by decide +kernel
theorem dX0_reckon_7 : decode cX0_reckon 7 = .ok (.iload_n 3, 1) := by decide +kernel
theorem dX0_reckon_8 : decode cX0_reckon 8 = .ok (.sipush 10000, 3) := by decide +kernel
theorem dX0_reckon_11 : decode cX0_reckon 11 = .ok (.irem, 1) := by decide +kernel
theorem dX0_reckon_12 : decode cX0_reckon 12 = .ok (.istore 5, 2) := by decide +kernel
theorem dX0_reckon_14 : decode cX0_reckon 14 = .ok (.aload_n 0, 1) := by decide +kernel
theorem dX0_reckon_15 : decode cX0_reckon 15 = .ok (.aload_n 1, 1) := by decide +kernel
theorem dX0_reckon_16 : decode cX0_reckon 16 = .ok (.invokevirtual 41, 3) := by decide +kernel
theorem dX0_reckon_19 : decode cX0_reckon 19 = .ok (.iload_n 2, 1) := by decide +kernel
theorem dX0_reckon_20 : decode cX0_reckon 20 = .ok (.tableswitch 146 0 6 #[44, 69, 78, 87, 96, 123, 137], 44) := by decide +kernel
theorem dX0_reckon_64 : decode cX0_reckon 64 = .ok (.aload_n 1, 1) := by decide +kernel
theorem dX0_reckon_65 : decode cX0_reckon 65 = .ok (.iload_n 3, 1) := by decide +kernel
theorem dX0_reckon_66 : decode cX0_reckon 66 = .ok (.invokevirtual 45, 3) := by decide +kernel
theorem dX0_reckon_69 : decode cX0_reckon 69 = .ok (.ifCond .eq 18, 3) := by decide +kernel
theorem dX0_reckon_72 : decode cX0_reckon 72 = .ok (.aload_n 0, 1) := by decide +kernel
theorem dX0_reckon_73 : decode cX0_reckon 73 = .ok (.iload 4, 2) := by decide +kernel
theorem dX0_reckon_75 : decode cX0_reckon 75 = .ok (.iload 5, 2) := by decide +kernel
theorem dX0_reckon_77 : decode cX0_reckon 77 = .ok (.invokevirtual 51, 3) := by decide +kernel
theorem dX0_reckon_80 : decode cX0_reckon 80 = .ok (.ifCond .eq 7, 3) := by decide +kernel
theorem dX0_reckon_83 : decode cX0_reckon 83 = .ok (.iconst 1, 1) := by decide +kernel
theorem dX0_reckon_84 : decode cX0_reckon 84 = .ok (.goto 4, 3) := by decide +kernel
theorem dX0_reckon_87 : decode cX0_reckon 87 = .ok (.iconst 0, 1) := by decide +kernel
theorem dX0_reckon_88 : decode cX0_reckon 88 = .ok (.ireturn, 1) := by decide +kernel
theorem dX0_reckon_89 : decode cX0_reckon 89 = .ok (.aload_n 0, 1) := by decide +kernel
theorem dX0_reckon_90 : decode cX0_reckon 90 = .ok (.iload 4, 2) := by decide +kernel
theorem dX0_reckon_92 : decode cX0_reckon 92 = .ok (.iload 5, 2) := by decide +kernel
theorem dX0_reckon_94 : decode cX0_reckon 94 = .ok (.invokevirtual 55, 3) := by decide +kernel
theorem dX0_reckon_97 : decode cX0_reckon 97 = .ok (.ireturn, 1) := by decide +kernel
theorem dX0_reckon_98 : decode cX0_reckon 98 = .ok (.aload_n 0, 1) := by decide +kernel
theorem dX0_reckon_99 : decode cX0_reckon 99 = .ok (.iload 4, 2) := by decide +kernel
theorem dX0_reckon_101 : decode cX0_reckon 101 = .ok (.iload 5, 2) := by decide +kernel
theorem dX0_reckon_103 : decode cX0_reckon 103 = .ok (.invokevirtual 58, 3) := by decide +kernel
theorem dX0_reckon_106 : decode cX0_reckon 106 = .ok (.ireturn, 1) := by decide +kernel
theorem dX0_reckon_107 : decode cX0_reckon 107 = .ok (.aload_n 0, 1) := by decide +kernel
theorem dX0_reckon_108 : decode cX0_reckon 108 = .ok (.iload 4, 2) := by decide +kernel
theorem dX0_reckon_110 : decode cX0_reckon 110 = .ok (.iload 5, 2) := by decide +kernel
theorem dX0_reckon_112 : decode cX0_reckon 112 = .ok (.invokevirtual 61, 3) := by decide +kernel
theorem dX0_reckon_115 : decode cX0_reckon 115 = .ok (.ireturn, 1) := by decide +kernel
theorem dX0_reckon_116 : decode cX0_reckon 116 = .ok (.iload 4, 2) := by decide +kernel
theorem dX0_reckon_118 : decode cX0_reckon 118 = .ok (.iload 5, 2) := by decide +kernel
theorem dX0_reckon_120 : decode cX0_reckon 120 = .ok (.iadd, 1) := by decide +kernel
theorem dX0_reckon_121 : decode cX0_reckon 121 = .ok (.iconst 2, 1) := by decide +kernel
theorem dX0_reckon_122 : decode cX0_reckon 122 = .ok (.irem, 1) := by decide +kernel
theorem dX0_reckon_123 : decode cX0_reckon 123 = .ok (.ifCond .ne 18, 3) := by decide +kernel
theorem dX0_reckon_126 : decode cX0_reckon 126 = .ok (.aload_n 0, 1) := by decide +kernel
theorem dX0_reckon_127 : decode cX0_reckon 127 = .ok (.iload 4, 2) := by decide +kernel
theorem dX0_reckon_129 : decode cX0_reckon 129 = .ok (.iload 5, 2) := by decide +kernel
theorem dX0_reckon_131 : decode cX0_reckon 131 = .ok (.invokevirtual 64, 3) := by decide +kernel
theorem dX0_reckon_134 : decode cX0_reckon 134 = .ok (.ifCond .eq 7, 3) := by decide +kernel
theorem dX0_reckon_137 : decode cX0_reckon 137 = .ok (.iconst 1, 1) := by decide +kernel
theorem dX0_reckon_138 : decode cX0_reckon 138 = .ok (.goto 4, 3) := by decide +kernel
theorem dX0_reckon_141 : decode cX0_reckon 141 = .ok (.iconst 0, 1) := by decide +kernel
theorem dX0_reckon_142 : decode cX0_reckon 142 = .ok (.ireturn, 1) := by decide +kernel
theorem dX0_reckon_143 : decode cX0_reckon 143 = .ok (.aload_n 0, 1) := by decide +kernel
theorem dX0_reckon_144 : decode cX0_reckon 144 = .ok (.iload 4, 2) := by decide +kernel
theorem dX0_reckon_146 : decode cX0_reckon 146 = .ok (.iload 5, 2) := by decide +kernel
theorem dX0_reckon_148 : decode cX0_reckon 148 = .ok (.aload_n 1, 1) := by decide +kernel
theorem dX0_reckon_149 : decode cX0_reckon 149 = .ok (.iconst 3, 1) := by decide +kernel
theorem dX0_reckon_150 : decode cX0_reckon 150 = .ok (.invokevirtual 67, 3) := by decide +kernel
theorem dX0_reckon_153 : decode cX0_reckon 153 = .ok (.invokevirtual 71, 3) := by decide +kernel
theorem dX0_reckon_156 : decode cX0_reckon 156 = .ok (.ireturn, 1) := by decide +kernel
theorem dX0_reckon_157 : decode cX0_reckon 157 = .ok (.aload_n 0, 1) := by decide +kernel
theorem dX0_reckon_158 : decode cX0_reckon 158 = .ok (.iload 5, 2) := by decide +kernel
theorem dX0_reckon_160 : decode cX0_reckon 160 = .ok (.iload 4, 2) := by decide +kernel
theorem dX0_reckon_162 : decode cX0_reckon 162 = .ok (.invokevirtual 58, 3) := by decide +kernel
theorem dX0_reckon_165 : decode cX0_reckon 165 = .ok (.ireturn, 1) := by decide +kernel
theorem dX0_reckon_166 : decode cX0_reckon 166 = .ok (.iconst 0, 1) := by decide +kernel
theorem dX0_reckon_167 : decode cX0_reckon 167 = .ok (.ireturn, 1) := by decide +kernel
theorem dX0_begin_0 : decode cX0_begin 0 = .ok (.aload_n 0, 1) := by decide +kernel
theorem dX0_begin_1 : decode cX0_begin 1 = .ok (.aload_n 1, 1) := by decide +kernel
theorem dX0_begin_2 : decode cX0_begin 2 = .ok (.iconst 0, 1) := by decide +kernel
theorem dX0_begin_3 : decode cX0_begin 3 = .ok (.invokevirtual 67, 3) := by decide +kernel
theorem dX0_begin_6 : decode cX0_begin 6 = .ok (.putfield 75, 3) := by decide +kernel
theorem dX0_begin_9 : decode cX0_begin 9 = .ok (.aload_n 0, 1) := by decide +kernel
theorem dX0_begin_10 : decode cX0_begin 10 = .ok (.aload_n 1, 1) := by decide +kernel
theorem dX0_begin_11 : decode cX0_begin 11 = .ok (.iconst 1, 1) := by decide +kernel
theorem dX0_begin_12 : decode cX0_begin 12 = .ok (.invokevirtual 67, 3) := by decide +kernel
theorem dX0_begin_15 : decode cX0_begin 15 = .ok (.putfield 78, 3) := by decide +kernel
theorem dX0_begin_18 : decode cX0_begin 18 = .ok (.aload_n 0, 1) := by decide +kernel
theorem dX0_begin_19 : decode cX0_begin 19 = .ok (.aload_n 1, 1) := by decide +kernel
theorem dX0_begin_20 : decode cX0_begin 20 = .ok (.iconst 2, 1) := by decide +kernel
theorem dX0_begin_21 : decode cX0_begin 21 = .ok (.invokevirtual 67, 3) := by decide +kernel
theorem dX0_begin_24 : decode cX0_begin 24 = .ok (.putfield 81, 3) := by decide +kernel
theorem dX0_begin_27 : decode cX0_begin 27 = .ok (.aload_n 0, 1) := by decide +kernel
theorem dX0_begin_28 : decode cX0_begin 28 = .ok (.iconst 0, 1) := by decide +kernel
theorem dX0_begin_29 : decode cX0_begin 29 = .ok (.putfield 30, 3) := by decide +kernel
theorem dX0_begin_32 : decode cX0_begin 32 = .ok (.aload_n 0, 1) := by decide +kernel
theorem dX0_begin_33 : decode cX0_begin 33 = .ok (.iconst 0, 1) := by decide +kernel
theorem dX0_begin_34 : decode cX0_begin 34 = .ok (.putfield 34, 3) := by decide +kernel
theorem dX0_begin_37 : decode cX0_begin 37 = .ok (.aload_n 0, 1) := by decide +kernel
theorem dX0_begin_38 : decode cX0_begin 38 = .ok (.iconst 0, 1) := by decide +kernel
theorem dX0_begin_39 : decode cX0_begin 39 = .ok (.putfield 37, 3) := by decide +kernel
theorem dX0_begin_42 : decode cX0_begin 42 = .ok (.aload_n 0, 1) := by decide +kernel
theorem dX0_begin_43 : decode cX0_begin 43 = .ok (.iconst 0, 1) := by decide +kernel
theorem dX0_begin_44 : decode cX0_begin 44 = .ok (.putfield 84, 3) := by decide +kernel
theorem dX0_begin_47 : decode cX0_begin 47 = .ok (.aload_n 0, 1) := by decide +kernel
theorem dX0_begin_48 : decode cX0_begin 48 = .ok (.invokevirtual 87, 3) := by decide +kernel
theorem dX0_begin_51 : decode cX0_begin 51 = .ok (.return_, 1) := by decide +kernel
theorem dX0_beginAnew_0 : decode cX0_beginAnew 0 = .ok (.aload_n 0, 1) := by decide +kernel
theorem dX0_beginAnew_1 : decode cX0_beginAnew 1 = .ok (.iconst 0, 1) := by decide +kernel
theorem dX0_beginAnew_2 : decode cX0_beginAnew 2 = .ok (.putfield 90, 3) := by decide +kernel
theorem dX0_beginAnew_5 : decode cX0_beginAnew 5 = .ok (.aload_n 0, 1) := by decide +kernel
theorem dX0_beginAnew_6 : decode cX0_beginAnew 6 = .ok (.iconst 0, 1) := by decide +kernel
theorem dX0_beginAnew_7 : decode cX0_beginAnew 7 = .ok (.putfield 93, 3) := by decide +kernel
theorem dX0_beginAnew_10 : decode cX0_beginAnew 10 = .ok (.aload_n 0, 1) := by decide +kernel
theorem dX0_beginAnew_11 : decode cX0_beginAnew 11 = .ok (.iconst 0, 1) := by decide +kernel
theorem dX0_beginAnew_12 : decode cX0_beginAnew 12 = .ok (.putfield 96, 3) := by decide +kernel
theorem dX0_beginAnew_15 : decode cX0_beginAnew 15 = .ok (.return_, 1) := by decide +kernel
theorem dX0_goKnown_0 : decode cX0_goKnown 0 = .ok (.aload_n 0, 1) := by decide +kernel
theorem dX0_goKnown_1 : decode cX0_goKnown 1 = .ok (.iload_n 1, 1) := by decide +kernel
theorem dX0_goKnown_2 : decode cX0_goKnown 2 = .ok (.iload_n 2, 1) := by decide +kernel
theorem dX0_goKnown_3 : decode cX0_goKnown 3 = .ok (.imul, 1) := by decide +kernel
theorem dX0_goKnown_4 : decode cX0_goKnown 4 = .ok (.invokevirtual 100, 3) := by decide +kernel
theorem dX0_goKnown_7 : decode cX0_goKnown 7 = .ok (.aload_n 0, 1) := by decide +kernel
theorem dX0_goKnown_8 : decode cX0_goKnown 8 = .ok (.iconst 0, 1) := by decide +kernel
theorem dX0_goKnown_9 : decode cX0_goKnown 9 = .ok (.iload_n 1, 1) := by decide +kernel
theorem dX0_goKnown_10 : decode cX0_goKnown 10 = .ok (.iload_n 2, 1) := by decide +kernel
theorem dX0_goKnown_11 : decode cX0_goKnown 11 = .ok (.imul, 1) := by decide +kernel
theorem dX0_goKnown_12 : decode cX0_goKnown 12 = .ok (.aload_n 0, 1) := by decide +kernel
theorem dX0_goKnown_13 : decode cX0_goKnown 13 = .ok (.getfield 75, 3) := by decide +kernel
theorem dX0_goKnown_16 : decode cX0_goKnown 16 = .ok (.iload_n 1, 1) := by decide +kernel
theorem dX0_goKnown_17 : decode cX0_goKnown 17 = .ok (.iload_n 2, 1) := by decide +kernel
theorem dX0_goKnown_18 : decode cX0_goKnown 18 = .ok (.invokestatic 104, 3) := by decide +kernel
theorem dX0_goKnown_21 : decode cX0_goKnown 21 = .ok (.invokevirtual 110, 3) := by decide +kernel
theorem dX0_goKnown_24 : decode cX0_goKnown 24 = .ok (.iconst 1, 1) := by decide +kernel
theorem dX0_goKnown_25 : decode cX0_goKnown 25 = .ok (.ireturn, 1) := by decide +kernel
theorem dX0_goLeft_0 : decode cX0_goLeft 0 = .ok (.iload_n 1, 1) := by decide +kernel
theorem dX0_goLeft_1 : decode cX0_goLeft 1 = .ok (.i2l, 1) := by decide +kernel
theorem dX0_goLeft_2 : decode cX0_goLeft 2 = .ok (.invokestatic 114, 3) := by decide +kernel
theorem dX0_goLeft_5 : decode cX0_goLeft 5 = .ok (.iconst 1, 1) := by decide +kernel
theorem dX0_goLeft_6 : decode cX0_goLeft 6 = .ok (.isub, 1) := by decide +kernel
theorem dX0_goLeft_7 : decode cX0_goLeft 7 = .ok (.istore_n 3, 1) := by decide +kernel
theorem dX0_goLeft_8 : decode cX0_goLeft 8 = .ok (.iload_n 3, 1) := by decide +kernel
theorem dX0_goLeft_9 : decode cX0_goLeft 9 = .ok (.ifCond .lt 56, 3) := by decide +kernel
theorem dX0_goLeft_12 : decode cX0_goLeft 12 = .ok (.iload_n 2, 1) := by decide +kernel
theorem dX0_goLeft_13 : decode cX0_goLeft 13 = .ok (.i2l, 1) := by decide +kernel
theorem dX0_goLeft_14 : decode cX0_goLeft 14 = .ok (.invokestatic 114, 3) := by decide +kernel
theorem dX0_goLeft_17 : decode cX0_goLeft 17 = .ok (.iconst 1, 1) := by decide +kernel
theorem dX0_goLeft_18 : decode cX0_goLeft 18 = .ok (.isub, 1) := by decide +kernel
theorem dX0_goLeft_19 : decode cX0_goLeft 19 = .ok (.istore 4, 2) := by decide +kernel
theorem dX0_goLeft_21 : decode cX0_goLeft 21 = .ok (.iload 4, 2) := by decide +kernel
theorem dX0_goLeft_23 : decode cX0_goLeft 23 = .ok (.ifCond .lt 36, 3) := by decide +kernel
theorem dX0_goLeft_26 : decode cX0_goLeft 26 = .ok (.iload_n 3, 1) := by decide +kernel
theorem dX0_goLeft_27 : decode cX0_goLeft 27 = .ok (.iload 4, 2) := by decide +kernel
theorem dX0_goLeft_29 : decode cX0_goLeft 29 = .ok (.iadd, 1) := by decide +kernel
theorem dX0_goLeft_30 : decode cX0_goLeft 30 = .ok (.invokestatic 120, 3) := by decide +kernel
theorem dX0_goLeft_33 : decode cX0_goLeft 33 = .ok (.istore 5, 2) := by decide +kernel
theorem dX0_goLeft_35 : decode cX0_goLeft 35 = .ok (.aload_n 0, 1) := by decide +kernel
theorem dX0_goLeft_36 : decode cX0_goLeft 36 = .ok (.iload_n 1, 1) := by decide +kernel
theorem dX0_goLeft_37 : decode cX0_goLeft 37 = .ok (.iload_n 3, 1) := by decide +kernel
theorem dX0_goLeft_38 : decode cX0_goLeft 38 = .ok (.invokestatic 123, 3) := by decide +kernel
theorem dX0_goLeft_41 : decode cX0_goLeft 41 = .ok (.iload_n 2, 1) := by decide +kernel
theorem dX0_goLeft_42 : decode cX0_goLeft 42 = .ok (.iload 4, 2) := by decide +kernel
theorem dX0_goLeft_44 : decode cX0_goLeft 44 = .ok (.invokestatic 123, 3) := by decide +kernel
theorem dX0_goLeft_47 : decode cX0_goLeft 47 = .ok (.iload 5, 2) := by decide +kernel
theorem dX0_goLeft_49 : decode cX0_goLeft 49 = .ok (.iconst 1, 1) := by decide +kernel
theorem dX0_goLeft_50 : decode cX0_goLeft 50 = .ok (.invokevirtual 126, 3) := by decide +kernel
theorem dX0_goLeft_53 : decode cX0_goLeft 53 = .ok (.iinc 4 (-1), 3) := by decide +kernel
theorem dX0_goLeft_56 : decode cX0_goLeft 56 = .ok (.goto (-35), 3) := by decide +kernel
theorem dX0_goLeft_59 : decode cX0_goLeft 59 = .ok (.iinc 3 (-1), 3) := by decide +kernel
theorem dX0_goLeft_62 : decode cX0_goLeft 62 = .ok (.goto (-54), 3) := by decide +kernel
theorem dX0_goLeft_65 : decode cX0_goLeft 65 = .ok (.iconst 1, 1) := by decide +kernel
theorem dX0_goLeft_66 : decode cX0_goLeft 66 = .ok (.ireturn, 1) := by decide +kernel
theorem dX0_goRight_0 : decode cX0_goRight 0 = .ok (.iconst 0, 1) := by decide +kernel
theorem dX0_goRight_1 : decode cX0_goRight 1 = .ok (.istore_n 3, 1) := by decide +kernel
theorem dX0_goRight_2 : decode cX0_goRight 2 = .ok (.iconst 0, 1) := by decide +kernel
theorem dX0_goRight_3 : decode cX0_goRight 3 = .ok (.istore 4, 2) := by decide +kernel
theorem dX0_goRight_5 : decode cX0_goRight 5 = .ok (.iload 4, 2) := by decide +kernel
theorem dX0_goRight_7 : decode cX0_goRight 7 = .ok (.iload_n 2, 1) := by decide +kernel
theorem dX0_goRight_8 : decode cX0_goRight 8 = .ok (.i2l, 1) := by decide +kernel
theorem dX0_goRight_9 : decode cX0_goRight 9 = .ok (.invokestatic 114, 3) := by decide +kernel
theorem dX0_goRight_12 : decode cX0_goRight 12 = .ok (.if_icmp .ge 58, 3) := by decide +kernel
theorem dX0_goRight_15 : decode cX0_goRight 15 = .ok (.iload_n 3, 1) := by decide +kernel
theorem dX0_goRight_16 : decode cX0_goRight 16 = .ok (.iconst 4, 1) := by decide +kernel
theorem dX0_goRight_17 : decode cX0_goRight 17 = .ok (.if_icmp .ge 53, 3) := by decide +kernel
theorem dX0_goRight_20 : decode cX0_goRight 20 = .ok (.iload_n 2, 1) := by decide +kernel
theorem dX0_goRight_21 : decode cX0_goRight 21 = .ok (.iload 4, 2) := by decide +kernel
theorem dX0_goRight_23 : decode cX0_goRight 23 = .ok (.invokestatic 123, 3) := by decide +kernel
theorem dX0_goRight_26 : decode cX0_goRight 26 = .ok (.istore 5, 2) := by decide +kernel
theorem dX0_goRight_28 : decode cX0_goRight 28 = .ok (.iload 5, 2) := by decide +kernel
theorem dX0_goRight_30 : decode cX0_goRight 30 = .ok (.ifCond .eq 34, 3) := by decide +kernel
theorem dX0_goRight_33 : decode cX0_goRight 33 = .ok (.aload_n 0, 1) := by decide +kernel
theorem dX0_goRight_34 : decode cX0_goRight 34 = .ok (.iload_n 1, 1) := by decide +kernel
theorem dX0_goRight_35 : decode cX0_goRight 35 = .ok (.iload 5, 2) := by decide +kernel
theorem dX0_goRight_37 : decode cX0_goRight 37 = .ok (.iload 4, 2) := by decide +kernel
theorem dX0_goRight_39 : decode cX0_goRight 39 = .ok (.invokestatic 120, 3) := by decide +kernel
theorem dX0_goRight_42 : decode cX0_goRight 42 = .ok (.imul, 1) := by decide +kernel
theorem dX0_goRight_43 : decode cX0_goRight 43 = .ok (.invokevirtual 55, 3) := by decide +kernel
theorem dX0_goRight_46 : decode cX0_goRight 46 = .ok (.pop, 1) := by decide +kernel
theorem dX0_goRight_47 : decode cX0_goRight 47 = .ok (.aload_n 0, 1) := by decide +kernel
theorem dX0_goRight_48 : decode cX0_goRight 48 = .ok (.getfield 27, 3) := by decide +kernel
theorem dX0_goRight_51 : decode cX0_goRight 51 = .ok (.iload_n 3, 1) := by decide +kernel
theorem dX0_goRight_52 : decode cX0_goRight 52 = .ok (.aload_n 0, 1) := by decide +kernel
theorem dX0_goRight_53 : decode cX0_goRight 53 = .ok (.getfield 90, 3) := by decide +kernel
theorem dX0_goRight_56 : decode cX0_goRight 56 = .ok (.iastore, 1) := by decide +kernel
theorem dX0_goRight_57 : decode cX0_goRight 57 = .ok (.iinc 3 1, 3) := by decide +kernel
theorem dX0_goRight_60 : decode cX0_goRight 60 = .ok (.aload_n 0, 1) := by decide +kernel
theorem dX0_goRight_61 : decode cX0_goRight 61 = .ok (.invokevirtual 129, 3) := by decide +kernel
theorem dX0_goRight_64 : decode cX0_goRight 64 = .ok (.iinc 4 1, 3) := by decide +kernel
theorem dX0_goRight_67 : decode cX0_goRight 67 = .ok (.goto (-62), 3) := by decide +kernel
theorem dX0_goRight_70 : decode cX0_goRight 70 = .ok (.iload_n 3, 1) := by decide +kernel
theorem dX0_goRight_71 : decode cX0_goRight 71 = .ok (.iconst 1, 1) := by decide +kernel
theorem dX0_goRight_72 : decode cX0_goRight 72 = .ok (.if_icmp .le 8, 3) := by decide +kernel
theorem dX0_goRight_75 : decode cX0_goRight 75 = .ok (.aload_n 0, 1) := by decide +kernel
theorem dX0_goRight_76 : decode cX0_goRight 76 = .ok (.iload_n 3, 1) := by decide +kernel
theorem dX0_goRight_77 : decode cX0_goRight 77 = .ok (.invokevirtual 132, 3) := by decide +kernel
theorem dX0_goRight_80 : decode cX0_goRight 80 = .ok (.iconst 1, 1) := by decide +kernel
theorem dX0_goRight_81 : decode cX0_goRight 81 = .ok (.ireturn, 1) := by decide +kernel
theorem dX0_addRows_0 : decode cX0_addRows 0 = .ok (.aload_n 0, 1) := by decide +kernel
theorem dX0_addRows_1 : decode cX0_addRows 1 = .ok (.aload_n 0, 1) := by decide +kernel
theorem dX0_addRows_2 : decode cX0_addRows 2 = .ok (.getfield 27, 3) := by decide +kernel
theorem dX0_addRows_5 : decode cX0_addRows 5 = .ok (.iconst 0, 1) := by decide +kernel
theorem dX0_addRows_6 : decode cX0_addRows 6 = .ok (.iaload, 1) := by decide +kernel
theorem dX0_addRows_7 : decode cX0_addRows 7 = .ok (.invokevirtual 135, 3) := by decide +kernel
theorem dX0_addRows_10 : decode cX0_addRows 10 = .ok (.aload_n 0, 1) := by decide +kernel
theorem dX0_addRows_11 : decode cX0_addRows 11 = .ok (.aload_n 0, 1) := by decide +kernel
theorem dX0_addRows_12 : decode cX0_addRows 12 = .ok (.getfield 27, 3) := by decide +kernel
theorem dX0_addRows_15 : decode cX0_addRows 15 = .ok (.iconst 0, 1) := by decide +kernel
theorem dX0_addRows_16 : decode cX0_addRows 16 = .ok (.iaload, 1) := by decide +kernel
theorem dX0_addRows_17 : decode cX0_addRows 17 = .ok (.invokevirtual 100, 3) := by decide +kernel
theorem dX0_addRows_20 : decode cX0_addRows 20 = .ok (.iconst 1, 1) := by decide +kernel
theorem dX0_addRows_21 : decode cX0_addRows 21 = .ok (.istore_n 2, 1) := by decide +kernel
theorem dX0_addRows_22 : decode cX0_addRows 22 = .ok (.iload_n 2, 1) := by decide +kernel
theorem dX0_addRows_23 : decode cX0_addRows 23 = .ok (.iload_n 1, 1) := by decide +kernel
theorem dX0_addRows_24 : decode cX0_addRows 24 = .ok (.if_icmp .ge 35, 3) := by decide +kernel
theorem dX0_addRows_27 : decode cX0_addRows 27 = .ok (.aload_n 0, 1) := by decide +kernel
theorem dX0_addRows_28 : decode cX0_addRows 28 = .ok (.aload_n 0, 1) := by decide +kernel
theorem dX0_addRows_29 : decode cX0_addRows 29 = .ok (.getfield 27, 3) := by decide +kernel
theorem dX0_addRows_32 : decode cX0_addRows 32 = .ok (.iload_n 2, 1) := by decide +kernel
theorem dX0_addRows_33 : decode cX0_addRows 33 = .ok (.iaload, 1) := by decide +kernel
theorem dX0_addRows_34 : decode cX0_addRows 34 = .ok (.invokevirtual 135, 3) := by decide +kernel
theorem dX0_addRows_37 : decode cX0_addRows 37 = .ok (.aload_n 0, 1) := by decide +kernel
theorem dX0_addRows_38 : decode cX0_addRows 38 = .ok (.aload_n 0, 1) := by decide +kernel
theorem dX0_addRows_39 : decode cX0_addRows 39 = .ok (.getfield 90, 3) := by decide +kernel
theorem dX0_addRows_42 : decode cX0_addRows 42 = .ok (.aload_n 0, 1) := by decide +kernel
theorem dX0_addRows_43 : decode cX0_addRows 43 = .ok (.getfield 27, 3) := by decide +kernel
theorem dX0_addRows_46 : decode cX0_addRows 46 = .ok (.iload_n 2, 1) := by decide +kernel
theorem dX0_addRows_47 : decode cX0_addRows 47 = .ok (.iaload, 1) := by decide +kernel
theorem dX0_addRows_48 : decode cX0_addRows 48 = .ok (.iadd, 1) := by decide +kernel
theorem dX0_addRows_49 : decode cX0_addRows 49 = .ok (.iconst 1, 1) := by decide +kernel
theorem dX0_addRows_50 : decode cX0_addRows 50 = .ok (.invokevirtual 138, 3) := by decide +kernel
theorem dX0_addRows_53 : decode cX0_addRows 53 = .ok (.iinc 2 1, 3) := by decide +kernel
theorem dX0_addRows_56 : decode cX0_addRows 56 = .ok (.goto (-34), 3) := by decide +kernel
theorem dX0_addRows_59 : decode cX0_addRows 59 = .ok (.return_, 1) := by decide +kernel
theorem dX0_goCrossed_0 : decode cX0_goCrossed 0 = .ok (.iload_n 1, 1) := by decide +kernel
theorem dX0_goCrossed_1 : decode cX0_goCrossed 1 = .ok (.i2l, 1) := by decide +kernel
theorem dX0_goCrossed_2 : decode cX0_goCrossed 2 = .ok (.invokestatic 114, 3) := by decide +kernel
theorem dX0_goCrossed_5 : decode cX0_goCrossed 5 = .ok (.iload_n 2, 1) := by decide +kernel
theorem dX0_goCrossed_6 : decode cX0_goCrossed 6 = .ok (.i2l, 1) := by decide +kernel
theorem dX0_goCrossed_7 : decode cX0_goCrossed 7 = .ok (.invokestatic 114, 3) := by decide +kernel
theorem dX0_goCrossed_10 : decode cX0_goCrossed 10 = .ok (.iadd, 1) := by decide +kernel
theorem dX0_goCrossed_11 : decode cX0_goCrossed 11 = .ok (.iconst 2, 1) := by decide +kernel
theorem dX0_goCrossed_12 : decode cX0_goCrossed 12 = .ok (.isub, 1) := by decide +kernel
theorem dX0_goCrossed_13 : decode cX0_goCrossed 13 = .ok (.istore_n 3, 1) := by decide +kernel
theorem dX0_goCrossed_14 : decode cX0_goCrossed 14 = .ok (.iconst 0, 1) := by decide +kernel
theorem dX0_goCrossed_15 : decode cX0_goCrossed 15 = .ok (.istore 4, 2) := by decide +kernel
theorem dX0_goCrossed_17 : decode cX0_goCrossed 17 = .ok (.iload 4, 2) := by decide +kernel
theorem dX0_goCrossed_19 : decode cX0_goCrossed 19 = .ok (.iload_n 3, 1) := by decide +kernel
theorem dX0_goCrossed_20 : decode cX0_goCrossed 20 = .ok (.if_icmp .gt 54, 3) := by decide +kernel
theorem dX0_goCrossed_23 : decode cX0_goCrossed 23 = .ok (.iconst 0, 1) := by decide +kernel
theorem dX0_goCrossed_24 : decode cX0_goCrossed 24 = .ok (.istore 5, 2) := by decide +kernel
theorem dX0_goCrossed_26 : decode cX0_goCrossed 26 = .ok (.iload 5, 2) := by decide +kernel
theorem dX0_goCrossed_28 : decode cX0_goCrossed 28 = .ok (.iload 4, 2) := by decide +kernel
theorem dX0_goCrossed_30 : decode cX0_goCrossed 30 = .ok (.if_icmp .gt 34, 3) := by decide +kernel
theorem dX0_goCrossed_33 : decode cX0_goCrossed 33 = .ok (.aload_n 0, 1) := by decide +kernel
theorem dX0_goCrossed_34 : decode cX0_goCrossed 34 = .ok (.iload_n 1, 1) := by decide +kernel
theorem dX0_goCrossed_35 : decode cX0_goCrossed 35 = .ok (.iload 5, 2) := by decide +kernel
theorem dX0_goCrossed_37 : decode cX0_goCrossed 37 = .ok (.invokestatic 123, 3) := by decide +kernel
theorem dX0_goCrossed_40 : decode cX0_goCrossed 40 = .ok (.iload_n 2, 1) := by decide +kernel
theorem dX0_goCrossed_41 : decode cX0_goCrossed 41 = .ok (.iload 4, 2) := by decide +kernel
theorem dX0_goCrossed_43 : decode cX0_goCrossed 43 = .ok (.iload 5, 2) := by decide +kernel
theorem dX0_goCrossed_45 : decode cX0_goCrossed 45 = .ok (.isub, 1) := by decide +kernel
theorem dX0_goCrossed_46 : decode cX0_goCrossed 46 = .ok (.invokestatic 123, 3) := by decide +kernel
theorem dX0_goCrossed_49 : decode cX0_goCrossed 49 = .ok (.iconst 1, 1) := by decide +kernel
theorem dX0_goCrossed_50 : decode cX0_goCrossed 50 = .ok (.iload 4, 2) := by decide +kernel
theorem dX0_goCrossed_52 : decode cX0_goCrossed 52 = .ok (.invokestatic 120, 3) := by decide +kernel
theorem dX0_goCrossed_55 : decode cX0_goCrossed 55 = .ok (.invokevirtual 126, 3) := by decide +kernel
theorem dX0_goCrossed_58 : decode cX0_goCrossed 58 = .ok (.iinc 5 1, 3) := by decide +kernel
theorem dX0_goCrossed_61 : decode cX0_goCrossed 61 = .ok (.goto (-35), 3) := by decide +kernel
theorem dX0_goCrossed_64 : decode cX0_goCrossed 64 = .ok (.aload_n 0, 1) := by decide +kernel
theorem dX0_goCrossed_65 : decode cX0_goCrossed 65 = .ok (.invokevirtual 142, 3) := by decide +kernel
theorem dX0_goCrossed_68 : decode cX0_goCrossed 68 = .ok (.iinc 4 1, 3) := by decide +kernel
theorem dX0_goCrossed_71 : decode cX0_goCrossed 71 = .ok (.goto (-54), 3) := by decide +kernel
theorem dX0_goCrossed_74 : decode cX0_goCrossed 74 = .ok (.iconst 1, 1) := by decide +kernel
theorem dX0_goCrossed_75 : decode cX0_goCrossed 75 = .ok (.ireturn, 1) := by decide +kernel
theorem dX0_goSquared_0 : decode cX0_goSquared 0 = .ok (.iload_n 1, 1) := by decide +kernel
theorem dX0_goSquared_1 : decode cX0_goSquared 1 = .ok (.iload_n 2, 1) := by decide +kernel
theorem dX0_goSquared_2 : decode cX0_goSquared 2 = .ok (.iadd, 1) := by decide +kernel
theorem dX0_goSquared_3 : decode cX0_goSquared 3 = .ok (.iconst 2, 1) := by decide +kernel
theorem dX0_goSquared_4 : decode cX0_goSquared 4 = .ok (.idiv, 1) := by decide +kernel
theorem dX0_goSquared_5 : decode cX0_goSquared 5 = .ok (.istore_n 3, 1) := by decide +kernel
theorem dX0_goSquared_6 : decode cX0_goSquared 6 = .ok (.iload_n 1, 1) := by decide +kernel
theorem dX0_goSquared_7 : decode cX0_goSquared 7 = .ok (.iload_n 2, 1) := by decide +kernel
theorem dX0_goSquared_8 : decode cX0_goSquared 8 = .ok (.isub, 1) := by decide +kernel
theorem dX0_goSquared_9 : decode cX0_goSquared 9 = .ok (.invokestatic 145, 3) := by decide +kernel
theorem dX0_goSquared_12 : decode cX0_goSquared 12 = .ok (.iconst 2, 1) := by decide +kernel
theorem dX0_goSquared_13 : decode cX0_goSquared 13 = .ok (.idiv, 1) := by decide +kernel
theorem dX0_goSquared_14 : decode cX0_goSquared 14 = .ok (.istore 4, 2) := by decide +kernel
theorem dX0_goSquared_16 : decode cX0_goSquared 16 = .ok (.aload_n 0, 1) := by decide +kernel
theorem dX0_goSquared_17 : decode cX0_goSquared 17 = .ok (.iload_n 3, 1) := by decide +kernel
theorem dX0_goSquared_18 : decode cX0_goSquared 18 = .ok (.iload_n 3, 1) := by decide +kernel
theorem dX0_goSquared_19 : decode cX0_goSquared 19 = .ok (.invokevirtual 55, 3) := by decide +kernel
theorem dX0_goSquared_22 : decode cX0_goSquared 22 = .ok (.pop, 1) := by decide +kernel
theorem dX0_goSquared_23 : decode cX0_goSquared 23 = .ok (.aload_n 0, 1) := by decide +kernel
theorem dX0_goSquared_24 : decode cX0_goSquared 24 = .ok (.getfield 90, 3) := by decide +kernel
theorem dX0_goSquared_27 : decode cX0_goSquared 27 = .ok (.istore 5, 2) := by decide +kernel
theorem dX0_goSquared_29 : decode cX0_goSquared 29 = .ok (.aload_n 0, 1) := by decide +kernel
theorem dX0_goSquared_30 : decode cX0_goSquared 30 = .ok (.invokevirtual 129, 3) := by decide +kernel
theorem dX0_goSquared_33 : decode cX0_goSquared 33 = .ok (.iload 4, 2) := by decide +kernel
theorem dX0_goSquared_35 : decode cX0_goSquared 35 = .ok (.ifCond .le 12, 3) := by decide +kernel
theorem dX0_goSquared_38 : decode cX0_goSquared 38 = .ok (.aload_n 0, 1) := by decide +kernel
theorem dX0_goSquared_39 : decode cX0_goSquared 39 = .ok (.iload 4, 2) := by decide +kernel
theorem dX0_goSquared_41 : decode cX0_goSquared 41 = .ok (.iload 4, 2) := by decide +kernel
theorem dX0_goSquared_43 : decode cX0_goSquared 43 = .ok (.invokevirtual 55, 3) := by decide +kernel
theorem dX0_goSquared_46 : decode cX0_goSquared 46 = .ok (.pop, 1) := by decide +kernel
theorem dX0_goSquared_47 : decode cX0_goSquared 47 = .ok (.aload_n 0, 1) := by decide +kernel
theorem dX0_goSquared_48 : decode cX0_goSquared 48 = .ok (.iload 5, 2) := by decide +kernel
theorem dX0_goSquared_50 : decode cX0_goSquared 50 = .ok (.invokevirtual 135, 3) := by decide +kernel
theorem dX0_goSquared_53 : decode cX0_goSquared 53 = .ok (.aload_n 0, 1) := by decide +kernel
theorem dX0_goSquared_54 : decode cX0_goSquared 54 = .ok (.iload 5, 2) := by decide +kernel
theorem dX0_goSquared_56 : decode cX0_goSquared 56 = .ok (.aload_n 0, 1) := by decide +kernel
theorem dX0_goSquared_57 : decode cX0_goSquared 57 = .ok (.getfield 90, 3) := by decide +kernel
theorem dX0_goSquared_60 : decode cX0_goSquared 60 = .ok (.isub, 1) := by decide +kernel
theorem dX0_goSquared_61 : decode cX0_goSquared 61 = .ok (.iconst 1, 1) := by decide +kernel
theorem dX0_goSquared_62 : decode cX0_goSquared 62 = .ok (.invokevirtual 138, 3) := by decide +kernel
theorem dX0_goSquared_65 : decode cX0_goSquared 65 = .ok (.iconst 1, 1) := by decide +kernel
theorem dX0_goSquared_66 : decode cX0_goSquared 66 = .ok (.ireturn, 1) := by decide +kernel
theorem dX0_goSplit_0 : decode cX0_goSplit 0 = .ok (.iload_n 3, 1) := by decide +kernel
theorem dX0_goSplit_1 : decode cX0_goSplit 1 = .ok (.istore 4, 2) := by decide +kernel
theorem dX0_goSplit_3 : decode cX0_goSplit 3 = .ok (.iload 4, 2) := by decide +kernel
theorem dX0_goSplit_5 : decode cX0_goSplit 5 = .ok (.iconst 2, 1) := by decide +kernel
theorem dX0_goSplit_6 : decode cX0_goSplit 6 = .ok (.if_icmp .lt 53, 3) := by decide +kernel
theorem dX0_goSplit_9 : decode cX0_goSplit 9 = .ok (.iload_n 2, 1) := by decide +kernel
theorem dX0_goSplit_10 : decode cX0_goSplit 10 = .ok (.iload 4, 2) := by decide +kernel
theorem dX0_goSplit_12 : decode cX0_goSplit 12 = .ok (.irem, 1) := by decide +kernel
theorem dX0_goSplit_13 : decode cX0_goSplit 13 = .ok (.ifCond .ne 40, 3) := by decide +kernel
theorem dX0_goSplit_16 : decode cX0_goSplit 16 = .ok (.iload_n 2, 1) := by decide +kernel
theorem dX0_goSplit_17 : decode cX0_goSplit 17 = .ok (.iload 4, 2) := by decide +kernel
theorem dX0_goSplit_19 : decode cX0_goSplit 19 = .ok (.idiv, 1) := by decide +kernel
theorem dX0_goSplit_20 : decode cX0_goSplit 20 = .ok (.iconst 1, 1) := by decide +kernel
theorem dX0_goSplit_21 : decode cX0_goSplit 21 = .ok (.if_icmp .le 32, 3) := by decide +kernel
theorem dX0_goSplit_24 : decode cX0_goSplit 24 = .ok (.aload_n 0, 1) := by decide +kernel
theorem dX0_goSplit_25 : decode cX0_goSplit 25 = .ok (.iload_n 1, 1) := by decide +kernel
theorem dX0_goSplit_26 : decode cX0_goSplit 26 = .ok (.iload 4, 2) := by decide +kernel
theorem dX0_goSplit_28 : decode cX0_goSplit 28 = .ok (.invokevirtual 55, 3) := by decide +kernel
theorem dX0_goSplit_31 : decode cX0_goSplit 31 = .ok (.pop, 1) := by decide +kernel
theorem dX0_goSplit_32 : decode cX0_goSplit 32 = .ok (.aload_n 0, 1) := by decide +kernel
theorem dX0_goSplit_33 : decode cX0_goSplit 33 = .ok (.getfield 90, 3) := by decide +kernel
theorem dX0_goSplit_36 : decode cX0_goSplit 36 = .ok (.istore 5, 2) := by decide +kernel
theorem dX0_goSplit_38 : decode cX0_goSplit 38 = .ok (.aload_n 0, 1) := by decide +kernel
theorem dX0_goSplit_39 : decode cX0_goSplit 39 = .ok (.invokevirtual 129, 3) := by decide +kernel
theorem dX0_goSplit_42 : decode cX0_goSplit 42 = .ok (.aload_n 0, 1) := by decide +kernel
theorem dX0_goSplit_43 : decode cX0_goSplit 43 = .ok (.iload 5, 2) := by decide +kernel
theorem dX0_goSplit_45 : decode cX0_goSplit 45 = .ok (.iload_n 2, 1) := by decide +kernel
theorem dX0_goSplit_46 : decode cX0_goSplit 46 = .ok (.iload 4, 2) := by decide +kernel
theorem dX0_goSplit_48 : decode cX0_goSplit 48 = .ok (.idiv, 1) := by decide +kernel
theorem dX0_goSplit_49 : decode cX0_goSplit 49 = .ok (.invokevirtual 55, 3) := by decide +kernel
theorem dX0_goSplit_52 : decode cX0_goSplit 52 = .ok (.ireturn, 1) := by decide +kernel
theorem dX0_goSplit_53 : decode cX0_goSplit 53 = .ok (.iinc 4 (-1), 3) := by decide +kernel
theorem dX0_goSplit_56 : decode cX0_goSplit 56 = .ok (.goto (-53), 3) := by decide +kernel
theorem dX0_goSplit_59 : decode cX0_goSplit 59 = .ok (.iconst 0, 1) := by decide +kernel
theorem dX0_goSplit_60 : decode cX0_goSplit 60 = .ok (.ireturn, 1) := by decide +kernel
theorem dX0_lookAndAdd_0 : decode cX0_lookAndAdd 0 = .ok (.iload_n 1, 1) := by decide +kernel
theorem dX0_lookAndAdd_1 : decode cX0_lookAndAdd 1 = .ok (.ifCond .eq 7, 3) := by decide +kernel
theorem dX0_lookAndAdd_4 : decode cX0_lookAndAdd 4 = .ok (.iload_n 2, 1) := by decide +kernel
theorem dX0_lookAndAdd_5 : decode cX0_lookAndAdd 5 = .ok (.ifCond .ne 4, 3) := by decide +kernel
theorem dX0_lookAndAdd_8 : decode cX0_lookAndAdd 8 = .ok (.return_, 1) := by decide +kernel
theorem dX0_lookAndAdd_9 : decode cX0_lookAndAdd 9 = .ok (.iload_n 1, 1) := by decide +kernel
theorem dX0_lookAndAdd_10 : decode cX0_lookAndAdd 10 = .ok (.iload_n 2, 1) := by decide +kernel
theorem dX0_lookAndAdd_11 : decode cX0_lookAndAdd 11 = .ok (.imul, 1) := by decide +kernel
theorem dX0_lookAndAdd_12 : decode cX0_lookAndAdd 12 = .ok (.iload_n 3, 1) := by decide +kernel
theorem dX0_lookAndAdd_13 : decode cX0_lookAndAdd 13 = .ok (.imul, 1) := by decide +kernel
theorem dX0_lookAndAdd_14 : decode cX0_lookAndAdd 14 = .ok (.istore 5, 2) := by decide +kernel
theorem dX0_lookAndAdd_16 : decode cX0_lookAndAdd 16 = .ok (.aload_n 0, 1) := by decide +kernel
theorem dX0_lookAndAdd_17 : decode cX0_lookAndAdd 17 = .ok (.getfield 96, 3) := by decide +kernel
theorem dX0_lookAndAdd_20 : decode cX0_lookAndAdd 20 = .ok (.istore 6, 2) := by decide +kernel
theorem dX0_lookAndAdd_22 : decode cX0_lookAndAdd 22 = .ok (.iload 6, 2) := by decide +kernel
theorem dX0_lookAndAdd_24 : decode cX0_lookAndAdd 24 = .ok (.ifCond .ne 9, 3) := by decide +kernel
theorem dX0_lookAndAdd_27 : decode cX0_lookAndAdd 27 = .ok (.aload_n 0, 1) := by decide +kernel
theorem dX0_lookAndAdd_28 : decode cX0_lookAndAdd 28 = .ok (.iload 5, 2) := by decide +kernel
theorem dX0_lookAndAdd_30 : decode cX0_lookAndAdd 30 = .ok (.invokevirtual 100, 3) := by decide +kernel
theorem dX0_lookAndAdd_33 : decode cX0_lookAndAdd 33 = .ok (.aload_n 0, 1) := by decide +kernel
theorem dX0_lookAndAdd_34 : decode cX0_lookAndAdd 34 = .ok (.iconst 0, 1) := by decide +kernel
theorem dX0_lookAndAdd_35 : decode cX0_lookAndAdd 35 = .ok (.iload 5, 2) := by decide +kernel
theorem dX0_lookAndAdd_37 : decode cX0_lookAndAdd 37 = .ok (.aload_n 0, 1) := by decide +kernel
theorem dX0_lookAndAdd_38 : decode cX0_lookAndAdd 38 = .ok (.getfield 75, 3) := by decide +kernel
theorem dX0_lookAndAdd_41 : decode cX0_lookAndAdd 41 = .ok (.iload_n 1, 1) := by decide +kernel
theorem dX0_lookAndAdd_42 : decode cX0_lookAndAdd 42 = .ok (.iload_n 2, 1) := by decide +kernel
theorem dX0_lookAndAdd_43 : decode cX0_lookAndAdd 43 = .ok (.invokestatic 104, 3) := by decide +kernel
theorem dX0_lookAndAdd_46 : decode cX0_lookAndAdd 46 = .ok (.iload_n 3, 1) := by decide +kernel
theorem dX0_lookAndAdd_47 : decode cX0_lookAndAdd 47 = .ok (.imul, 1) := by decide +kernel
theorem dX0_lookAndAdd_48 : decode cX0_lookAndAdd 48 = .ok (.iload 4, 2) := by decide +kernel
theorem dX0_lookAndAdd_50 : decode cX0_lookAndAdd 50 = .ok (.imul, 1) := by decide +kernel
theorem dX0_lookAndAdd_51 : decode cX0_lookAndAdd 51 = .ok (.invokevirtual 110, 3) := by decide +kernel
theorem dX0_lookAndAdd_54 : decode cX0_lookAndAdd 54 = .ok (.iload 6, 2) := by decide +kernel
theorem dX0_lookAndAdd_56 : decode cX0_lookAndAdd 56 = .ok (.ifCond .eq 34, 3) := by decide +kernel
theorem dX0_lookAndAdd_59 : decode cX0_lookAndAdd 59 = .ok (.aload_n 0, 1) := by decide +kernel
theorem dX0_lookAndAdd_60 : decode cX0_lookAndAdd 60 = .ok (.aload_n 0, 1) := by decide +kernel
theorem dX0_lookAndAdd_61 : decode cX0_lookAndAdd 61 = .ok (.getfield 90, 3) := by decide +kernel
theorem dX0_lookAndAdd_64 : decode cX0_lookAndAdd 64 = .ok (.iload 5, 2) := by decide +kernel
theorem dX0_lookAndAdd_66 : decode cX0_lookAndAdd 66 = .ok (.iadd, 1) := by decide +kernel
theorem dX0_lookAndAdd_67 : decode cX0_lookAndAdd 67 = .ok (.invokevirtual 100, 3) := by decide +kernel
theorem dX0_lookAndAdd_70 : decode cX0_lookAndAdd 70 = .ok (.aload_n 0, 1) := by decide +kernel
theorem dX0_lookAndAdd_71 : decode cX0_lookAndAdd 71 = .ok (.iconst 1, 1) := by decide +kernel
theorem dX0_lookAndAdd_72 : decode cX0_lookAndAdd 72 = .ok (.aload_n 0, 1) := by decide +kernel
theorem dX0_lookAndAdd_73 : decode cX0_lookAndAdd 73 = .ok (.getfield 90, 3) := by decide +kernel
theorem dX0_lookAndAdd_76 : decode cX0_lookAndAdd 76 = .ok (.aload_n 0, 1) := by decide +kernel
theorem dX0_lookAndAdd_77 : decode cX0_lookAndAdd 77 = .ok (.getfield 78, 3) := by decide +kernel
theorem dX0_lookAndAdd_80 : decode cX0_lookAndAdd 80 = .ok (.aload_n 0, 1) := by decide +kernel
theorem dX0_lookAndAdd_81 : decode cX0_lookAndAdd 81 = .ok (.getfield 93, 3) := by decide +kernel
theorem dX0_lookAndAdd_84 : decode cX0_lookAndAdd 84 = .ok (.imul, 1) := by decide +kernel
theorem dX0_lookAndAdd_85 : decode cX0_lookAndAdd 85 = .ok (.iload 4, 2) := by decide +kernel
theorem dX0_lookAndAdd_87 : decode cX0_lookAndAdd 87 = .ok (.invokevirtual 110, 3) := by decide +kernel
theorem dX0_lookAndAdd_90 : decode cX0_lookAndAdd 90 = .ok (.return_, 1) := by decide +kernel
theorem dX0_add_0 : decode cX0_add 0 = .ok (.aload_n 0, 1) := by decide +kernel
theorem dX0_add_1 : decode cX0_add 1 = .ok (.iload_n 1, 1) := by decide +kernel
theorem dX0_add_2 : decode cX0_add 2 = .ok (.invokevirtual 100, 3) := by decide +kernel
theorem dX0_add_5 : decode cX0_add 5 = .ok (.aload_n 0, 1) := by decide +kernel
theorem dX0_add_6 : decode cX0_add 6 = .ok (.iconst 1, 1) := by decide +kernel
theorem dX0_add_7 : decode cX0_add 7 = .ok (.iload_n 1, 1) := by decide +kernel
theorem dX0_add_8 : decode cX0_add 8 = .ok (.aload_n 0, 1) := by decide +kernel
theorem dX0_add_9 : decode cX0_add 9 = .ok (.getfield 78, 3) := by decide +kernel
theorem dX0_add_12 : decode cX0_add 12 = .ok (.aload_n 0, 1) := by decide +kernel
theorem dX0_add_13 : decode cX0_add 13 = .ok (.getfield 93, 3) := by decide +kernel
theorem dX0_add_16 : decode cX0_add 16 = .ok (.imul, 1) := by decide +kernel
theorem dX0_add_17 : decode cX0_add 17 = .ok (.iload_n 2, 1) := by decide +kernel
theorem dX0_add_18 : decode cX0_add 18 = .ok (.invokevirtual 110, 3) := by decide +kernel
theorem dX0_add_21 : decode cX0_add 21 = .ok (.return_, 1) := by decide +kernel
theorem dX0_run_0 : decode cX0_run 0 = .ok (.aload_n 0, 1) := by decide +kernel
theorem dX0_run_1 : decode cX0_run 1 = .ok (.iload_n 1, 1) := by decide +kernel
theorem dX0_run_2 : decode cX0_run 2 = .ok (.putfield 90, 3) := by decide +kernel
theorem dX0_run_5 : decode cX0_run 5 = .ok (.aload_n 0, 1) := by decide +kernel
theorem dX0_run_6 : decode cX0_run 6 = .ok (.iconst 0, 1) := by decide +kernel
theorem dX0_run_7 : decode cX0_run 7 = .ok (.putfield 93, 3) := by decide +kernel
theorem dX0_run_10 : decode cX0_run 10 = .ok (.iload_n 1, 1) := by decide +kernel
theorem dX0_run_11 : decode cX0_run 11 = .ok (.istore_n 2, 1) := by decide +kernel
theorem dX0_run_12 : decode cX0_run 12 = .ok (.iload_n 2, 1) := by decide +kernel
theorem dX0_run_13 : decode cX0_run 13 = .ok (.ifCond .le 21, 3) := by decide +kernel
theorem dX0_run_16 : decode cX0_run 16 = .ok (.aload_n 0, 1) := by decide +kernel
theorem dX0_run_17 : decode cX0_run 17 = .ok (.dup, 1) := by decide +kernel
theorem dX0_run_18 : decode cX0_run 18 = .ok (.getfield 93, 3) := by decide +kernel
theorem dX0_run_21 : decode cX0_run 21 = .ok (.iconst 1, 1) := by decide +kernel
theorem dX0_run_22 : decode cX0_run 22 = .ok (.iadd, 1) := by decide +kernel
theorem dX0_run_23 : decode cX0_run 23 = .ok (.putfield 93, 3) := by decide +kernel
theorem dX0_run_26 : decode cX0_run 26 = .ok (.iload_n 2, 1) := by decide +kernel
theorem dX0_run_27 : decode cX0_run 27 = .ok (.bipush 10, 2) := by decide +kernel
theorem dX0_run_29 : decode cX0_run 29 = .ok (.idiv, 1) := by decide +kernel
theorem dX0_run_30 : decode cX0_run 30 = .ok (.istore_n 2, 1) := by decide +kernel
theorem dX0_run_31 : decode cX0_run 31 = .ok (.goto (-19), 3) := by decide +kernel
theorem dX0_run_34 : decode cX0_run 34 = .ok (.aload_n 0, 1) := by decide +kernel
theorem dX0_run_35 : decode cX0_run 35 = .ok (.iconst 1, 1) := by decide +kernel
theorem dX0_run_36 : decode cX0_run 36 = .ok (.putfield 96, 3) := by decide +kernel
theorem dX0_run_39 : decode cX0_run 39 = .ok (.return_, 1) := by decide +kernel
theorem dX0_holdRunning_0 : decode cX0_holdRunning 0 = .ok (.aload_n 0, 1) := by decide +kernel
theorem dX0_holdRunning_1 : decode cX0_holdRunning 1 = .ok (.getfield 90, 3) := by decide +kernel
theorem dX0_holdRunning_4 : decode cX0_holdRunning 4 = .ok (.istore_n 1, 1) := by decide +kernel
theorem dX0_holdRunning_5 : decode cX0_holdRunning 5 = .ok (.aload_n 0, 1) := by decide +kernel
theorem dX0_holdRunning_6 : decode cX0_holdRunning 6 = .ok (.getfield 93, 3) := by decide +kernel
theorem dX0_holdRunning_9 : decode cX0_holdRunning 9 = .ok (.istore_n 2, 1) := by decide +kernel
theorem dX0_holdRunning_10 : decode cX0_holdRunning 10 = .ok (.aload_n 0, 1) := by decide +kernel
theorem dX0_holdRunning_11 : decode cX0_holdRunning 11 = .ok (.dup, 1) := by decide +kernel
theorem dX0_holdRunning_12 : decode cX0_holdRunning 12 = .ok (.getfield 84, 3) := by decide +kernel
theorem dX0_holdRunning_15 : decode cX0_holdRunning 15 = .ok (.iload_n 2, 1) := by decide +kernel
theorem dX0_holdRunning_16 : decode cX0_holdRunning 16 = .ok (.iadd, 1) := by decide +kernel
theorem dX0_holdRunning_17 : decode cX0_holdRunning 17 = .ok (.putfield 84, 3) := by decide +kernel
theorem dX0_holdRunning_20 : decode cX0_holdRunning 20 = .ok (.aload_n 0, 1) := by decide +kernel
theorem dX0_holdRunning_21 : decode cX0_holdRunning 21 = .ok (.invokevirtual 87, 3) := by decide +kernel
theorem dX0_holdRunning_24 : decode cX0_holdRunning 24 = .ok (.aload_n 0, 1) := by decide +kernel
theorem dX0_holdRunning_25 : decode cX0_holdRunning 25 = .ok (.iconst 2, 1) := by decide +kernel
theorem dX0_holdRunning_26 : decode cX0_holdRunning 26 = .ok (.iload_n 1, 1) := by decide +kernel
theorem dX0_holdRunning_27 : decode cX0_holdRunning 27 = .ok (.aload_n 0, 1) := by decide +kernel
theorem dX0_holdRunning_28 : decode cX0_holdRunning 28 = .ok (.getfield 81, 3) := by decide +kernel
theorem dX0_holdRunning_31 : decode cX0_holdRunning 31 = .ok (.iload_n 2, 1) := by decide +kernel
theorem dX0_holdRunning_32 : decode cX0_holdRunning 32 = .ok (.imul, 1) := by decide +kernel
theorem dX0_holdRunning_33 : decode cX0_holdRunning 33 = .ok (.iconst 0, 1) := by decide +kernel
theorem dX0_holdRunning_34 : decode cX0_holdRunning 34 = .ok (.invokevirtual 110, 3) := by decide +kernel
theorem dX0_holdRunning_37 : decode cX0_holdRunning 37 = .ok (.return_, 1) := by decide +kernel
theorem dX0_holdLastFigure_0 : decode cX0_holdLastFigure 0 = .ok (.aload_n 0, 1) := by decide +kernel
theorem dX0_holdLastFigure_1 : decode cX0_holdLastFigure 1 = .ok (.getfield 90, 3) := by decide +kernel
theorem dX0_holdLastFigure_4 : decode cX0_holdLastFigure 4 = .ok (.bipush 10, 2) := by decide +kernel
theorem dX0_holdLastFigure_6 : decode cX0_holdLastFigure 6 = .ok (.irem, 1) := by decide +kernel
theorem dX0_holdLastFigure_7 : decode cX0_holdLastFigure 7 = .ok (.istore_n 1, 1) := by decide +kernel
theorem dX0_holdLastFigure_8 : decode cX0_holdLastFigure 8 = .ok (.aload_n 0, 1) := by decide +kernel
theorem dX0_holdLastFigure_9 : decode cX0_holdLastFigure 9 = .ok (.dup, 1) := by decide +kernel
theorem dX0_holdLastFigure_10 : decode cX0_holdLastFigure 10 = .ok (.getfield 84, 3) := by decide +kernel
theorem dX0_holdLastFigure_13 : decode cX0_holdLastFigure 13 = .ok (.iconst 1, 1) := by decide +kernel
theorem dX0_holdLastFigure_14 : decode cX0_holdLastFigure 14 = .ok (.iadd, 1) := by decide +kernel
theorem dX0_holdLastFigure_15 : decode cX0_holdLastFigure 15 = .ok (.putfield 84, 3) := by decide +kernel
theorem dX0_holdLastFigure_18 : decode cX0_holdLastFigure 18 = .ok (.aload_n 0, 1) := by decide +kernel
theorem dX0_holdLastFigure_19 : decode cX0_holdLastFigure 19 = .ok (.dup, 1) := by decide +kernel
theorem dX0_holdLastFigure_20 : decode cX0_holdLastFigure 20 = .ok (.getfield 90, 3) := by decide +kernel
theorem dX0_holdLastFigure_23 : decode cX0_holdLastFigure 23 = .ok (.bipush 10, 2) := by decide +kernel
theorem dX0_holdLastFigure_25 : decode cX0_holdLastFigure 25 = .ok (.idiv, 1) := by decide +kernel
theorem dX0_holdLastFigure_26 : decode cX0_holdLastFigure 26 = .ok (.putfield 90, 3) := by decide +kernel
theorem dX0_holdLastFigure_29 : decode cX0_holdLastFigure 29 = .ok (.aload_n 0, 1) := by decide +kernel
theorem dX0_holdLastFigure_30 : decode cX0_holdLastFigure 30 = .ok (.iconst 0, 1) := by decide +kernel
theorem dX0_holdLastFigure_31 : decode cX0_holdLastFigure 31 = .ok (.aload_n 0, 1) := by decide +kernel
theorem dX0_holdLastFigure_32 : decode cX0_holdLastFigure 32 = .ok (.getfield 93, 3) := by decide +kernel
theorem dX0_holdLastFigure_35 : decode cX0_holdLastFigure 35 = .ok (.iconst 1, 1) := by decide +kernel
theorem dX0_holdLastFigure_36 : decode cX0_holdLastFigure 36 = .ok (.isub, 1) := by decide +kernel
theorem dX0_holdLastFigure_37 : decode cX0_holdLastFigure 37 = .ok (.invokestatic 148, 3) := by decide +kernel
theorem dX0_holdLastFigure_40 : decode cX0_holdLastFigure 40 = .ok (.putfield 93, 3) := by decide +kernel
theorem dX0_holdLastFigure_43 : decode cX0_holdLastFigure 43 = .ok (.aload_n 0, 1) := by decide +kernel
theorem dX0_holdLastFigure_44 : decode cX0_holdLastFigure 44 = .ok (.iconst 2, 1) := by decide +kernel
theorem dX0_holdLastFigure_45 : decode cX0_holdLastFigure 45 = .ok (.iload_n 1, 1) := by decide +kernel
theorem dX0_holdLastFigure_46 : decode cX0_holdLastFigure 46 = .ok (.aload_n 0, 1) := by decide +kernel
theorem dX0_holdLastFigure_47 : decode cX0_holdLastFigure 47 = .ok (.getfield 81, 3) := by decide +kernel
theorem dX0_holdLastFigure_50 : decode cX0_holdLastFigure 50 = .ok (.iconst 0, 1) := by decide +kernel
theorem dX0_holdLastFigure_51 : decode cX0_holdLastFigure 51 = .ok (.invokevirtual 110, 3) := by decide +kernel
theorem dX0_holdLastFigure_54 : decode cX0_holdLastFigure 54 = .ok (.return_, 1) := by decide +kernel
theorem dX0_letGo_0 : decode cX0_letGo 0 = .ok (.aload_n 0, 1) := by decide +kernel
theorem dX0_letGo_1 : decode cX0_letGo 1 = .ok (.dup, 1) := by decide +kernel
theorem dX0_letGo_2 : decode cX0_letGo 2 = .ok (.getfield 84, 3) := by decide +kernel
theorem dX0_letGo_5 : decode cX0_letGo 5 = .ok (.iload_n 1, 1) := by decide +kernel
theorem dX0_letGo_6 : decode cX0_letGo 6 = .ok (.i2l, 1) := by decide +kernel
theorem dX0_letGo_7 : decode cX0_letGo 7 = .ok (.invokestatic 114, 3) := by decide +kernel
theorem dX0_letGo_10 : decode cX0_letGo 10 = .ok (.isub, 1) := by decide +kernel
theorem dX0_letGo_11 : decode cX0_letGo 11 = .ok (.putfield 84, 3) := by decide +kernel
theorem dX0_letGo_14 : decode cX0_letGo 14 = .ok (.return_, 1) := by decide +kernel
theorem dX0_note_0 : decode cX0_note 0 = .ok (.aload_n 0, 1) := by decide +kernel
theorem dX0_note_1 : decode cX0_note 1 = .ok (.getfield 30, 3) := by decide +kernel
theorem dX0_note_4 : decode cX0_note 4 = .ok (.bipush 80, 2) := by decide +kernel
theorem dX0_note_6 : decode cX0_note 6 = .ok (.if_icmp .lt 4, 3) := by decide +kernel
theorem dX0_note_9 : decode cX0_note 9 = .ok (.return_, 1) := by decide +kernel
theorem dX0_note_10 : decode cX0_note 10 = .ok (.aload_n 0, 1) := by decide +kernel
theorem dX0_note_11 : decode cX0_note 11 = .ok (.getfield 11, 3) := by decide +kernel
theorem dX0_note_14 : decode cX0_note 14 = .ok (.aload_n 0, 1) := by decide +kernel
theorem dX0_note_15 : decode cX0_note 15 = .ok (.getfield 30, 3) := by decide +kernel
theorem dX0_note_18 : decode cX0_note 18 = .ok (.iload_n 1, 1) := by decide +kernel
theorem dX0_note_19 : decode cX0_note 19 = .ok (.iastore, 1) := by decide +kernel
theorem dX0_note_20 : decode cX0_note 20 = .ok (.aload_n 0, 1) := by decide +kernel
theorem dX0_note_21 : decode cX0_note 21 = .ok (.getfield 15, 3) := by decide +kernel
theorem dX0_note_24 : decode cX0_note 24 = .ok (.aload_n 0, 1) := by decide +kernel
theorem dX0_note_25 : decode cX0_note 25 = .ok (.getfield 30, 3) := by decide +kernel
theorem dX0_note_28 : decode cX0_note 28 = .ok (.iload_n 2, 1) := by decide +kernel
theorem dX0_note_29 : decode cX0_note 29 = .ok (.iastore, 1) := by decide +kernel
theorem dX0_note_30 : decode cX0_note 30 = .ok (.aload_n 0, 1) := by decide +kernel
theorem dX0_note_31 : decode cX0_note 31 = .ok (.getfield 18, 3) := by decide +kernel
theorem dX0_note_34 : decode cX0_note 34 = .ok (.aload_n 0, 1) := by decide +kernel
theorem dX0_note_35 : decode cX0_note 35 = .ok (.getfield 30, 3) := by decide +kernel
theorem dX0_note_38 : decode cX0_note 38 = .ok (.iload_n 3, 1) := by decide +kernel
theorem dX0_note_39 : decode cX0_note 39 = .ok (.iastore, 1) := by decide +kernel
theorem dX0_note_40 : decode cX0_note 40 = .ok (.aload_n 0, 1) := by decide +kernel
theorem dX0_note_41 : decode cX0_note 41 = .ok (.getfield 21, 3) := by decide +kernel
theorem dX0_note_44 : decode cX0_note 44 = .ok (.aload_n 0, 1) := by decide +kernel
theorem dX0_note_45 : decode cX0_note 45 = .ok (.getfield 30, 3) := by decide +kernel
theorem dX0_note_48 : decode cX0_note 48 = .ok (.aload_n 0, 1) := by decide +kernel
theorem dX0_note_49 : decode cX0_note 49 = .ok (.getfield 84, 3) := by decide +kernel
theorem dX0_note_52 : decode cX0_note 52 = .ok (.aload_n 0, 1) := by decide +kernel
theorem dX0_note_53 : decode cX0_note 53 = .ok (.getfield 93, 3) := by decide +kernel
theorem dX0_note_56 : decode cX0_note 56 = .ok (.iadd, 1) := by decide +kernel
theorem dX0_note_57 : decode cX0_note 57 = .ok (.iastore, 1) := by decide +kernel
theorem dX0_note_58 : decode cX0_note 58 = .ok (.aload_n 0, 1) := by decide +kernel
theorem dX0_note_59 : decode cX0_note 59 = .ok (.getfield 24, 3) := by decide +kernel
theorem dX0_note_62 : decode cX0_note 62 = .ok (.aload_n 0, 1) := by decide +kernel
theorem dX0_note_63 : decode cX0_note 63 = .ok (.getfield 30, 3) := by decide +kernel
theorem dX0_note_66 : decode cX0_note 66 = .ok (.iload 4, 2) := by decide +kernel
theorem dX0_note_68 : decode cX0_note 68 = .ok (.iastore, 1) := by decide +kernel
theorem dX0_note_69 : decode cX0_note 69 = .ok (.aload_n 0, 1) := by decide +kernel
theorem dX0_note_70 : decode cX0_note 70 = .ok (.dup, 1) := by decide +kernel
theorem dX0_note_71 : decode cX0_note 71 = .ok (.getfield 34, 3) := by decide +kernel
theorem dX0_note_74 : decode cX0_note 74 = .ok (.iload_n 3, 1) := by decide +kernel
theorem dX0_note_75 : decode cX0_note 75 = .ok (.iadd, 1) := by decide +kernel
theorem dX0_note_76 : decode cX0_note 76 = .ok (.putfield 34, 3) := by decide +kernel
theorem dX0_note_79 : decode cX0_note 79 = .ok (.aload_n 0, 1) := by decide +kernel
theorem dX0_note_80 : decode cX0_note 80 = .ok (.getfield 21, 3) := by decide +kernel
theorem dX0_note_83 : decode cX0_note 83 = .ok (.aload_n 0, 1) := by decide +kernel
theorem dX0_note_84 : decode cX0_note 84 = .ok (.getfield 30, 3) := by decide +kernel
theorem dX0_note_87 : decode cX0_note 87 = .ok (.iaload, 1) := by decide +kernel
theorem dX0_note_88 : decode cX0_note 88 = .ok (.aload_n 0, 1) := by decide +kernel
theorem dX0_note_89 : decode cX0_note 89 = .ok (.getfield 37, 3) := by decide +kernel
theorem dX0_note_92 : decode cX0_note 92 = .ok (.if_icmp .le 16, 3) := by decide +kernel
theorem dX0_note_95 : decode cX0_note 95 = .ok (.aload_n 0, 1) := by decide +kernel
theorem dX0_note_96 : decode cX0_note 96 = .ok (.aload_n 0, 1) := by decide +kernel
theorem dX0_note_97 : decode cX0_note 97 = .ok (.getfield 21, 3) := by decide +kernel
theorem dX0_note_100 : decode cX0_note 100 = .ok (.aload_n 0, 1) := by decide +kernel
theorem dX0_note_101 : decode cX0_note 101 = .ok (.getfield 30, 3) := by decide +kernel
theorem dX0_note_104 : decode cX0_note 104 = .ok (.iaload, 1) := by decide +kernel
theorem dX0_note_105 : decode cX0_note 105 = .ok (.putfield 37, 3) := by decide +kernel
theorem dX0_note_108 : decode cX0_note 108 = .ok (.aload_n 0, 1) := by decide +kernel
theorem dX0_note_109 : decode cX0_note 109 = .ok (.dup, 1) := by decide +kernel
theorem dX0_note_110 : decode cX0_note 110 = .ok (.getfield 30, 3) := by decide +kernel
theorem dX0_note_113 : decode cX0_note 113 = .ok (.iconst 1, 1) := by decide +kernel
theorem dX0_note_114 : decode cX0_note 114 = .ok (.iadd, 1) := by decide +kernel
theorem dX0_note_115 : decode cX0_note 115 = .ok (.putfield 30, 3) := by decide +kernel
theorem dX0_note_118 : decode cX0_note 118 = .ok (.return_, 1) := by decide +kernel
theorem dX0_slipsDrawn_0 : decode cX0_slipsDrawn 0 = .ok (.iload_n 1, 1) := by decide +kernel
theorem dX0_slipsDrawn_1 : decode cX0_slipsDrawn 1 = .ok (.istore_n 3, 1) := by decide +kernel
theorem dX0_slipsDrawn_2 : decode cX0_slipsDrawn 2 = .ok (.iconst 0, 1) := by decide +kernel
theorem dX0_slipsDrawn_3 : decode cX0_slipsDrawn 3 = .ok (.istore 4, 2) := by decide +kernel
theorem dX0_slipsDrawn_5 : decode cX0_slipsDrawn 5 = .ok (.iconst 0, 1) := by decide +kernel
theorem dX0_slipsDrawn_6 : decode cX0_slipsDrawn 6 = .ok (.istore 5, 2) := by decide +kernel
theorem dX0_slipsDrawn_8 : decode cX0_slipsDrawn 8 = .ok (.iload 5, 2) := by decide +kernel
theorem dX0_slipsDrawn_10 : decode cX0_slipsDrawn 10 = .ok (.aload_n 0, 1) := by decide +kernel
theorem dX0_slipsDrawn_11 : decode cX0_slipsDrawn 11 = .ok (.getfield 30, 3) := by decide +kernel
theorem dX0_slipsDrawn_14 : decode cX0_slipsDrawn 14 = .ok (.if_icmp .ge 71, 3) := by decide +kernel
theorem dX0_slipsDrawn_17 : decode cX0_slipsDrawn 17 = .ok (.aload_n 0, 1) := by decide +kernel
theorem dX0_slipsDrawn_18 : decode cX0_slipsDrawn 18 = .ok (.getfield 21, 3) := by decide +kernel
theorem dX0_slipsDrawn_21 : decode cX0_slipsDrawn 21 = .ok (.iload 5, 2) := by decide +kernel
theorem dX0_slipsDrawn_23 : decode cX0_slipsDrawn 23 = .ok (.iaload, 1) := by decide +kernel
theorem dX0_slipsDrawn_24 : decode cX0_slipsDrawn 24 = .ok (.iload_n 2, 1) := by decide +kernel
theorem dX0_slipsDrawn_25 : decode cX0_slipsDrawn 25 = .ok (.isub, 1) := by decide +kernel
theorem dX0_slipsDrawn_26 : decode cX0_slipsDrawn 26 = .ok (.istore 6, 2) := by decide +kernel
theorem dX0_slipsDrawn_28 : decode cX0_slipsDrawn 28 = .ok (.iload 6, 2) := by decide +kernel
theorem dX0_slipsDrawn_30 : decode cX0_slipsDrawn 30 = .ok (.ifCond .gt 6, 3) := by decide +kernel
theorem dX0_slipsDrawn_33 : decode cX0_slipsDrawn 33 = .ok (.goto 46, 3) := by decide +kernel
theorem dX0_slipsDrawn_36 : decode cX0_slipsDrawn 36 = .ok (.iload_n 3, 1) := by decide +kernel
theorem dX0_slipsDrawn_37 : decode cX0_slipsDrawn 37 = .ok (.ldc 151, 2) := by decide +kernel
theorem dX0_slipsDrawn_39 : decode cX0_slipsDrawn 39 = .ok (.imul, 1) := by decide +kernel
theorem dX0_slipsDrawn_40 : decode cX0_slipsDrawn 40 = .ok (.sipush 12345, 3) := by decide +kernel
theorem dX0_slipsDrawn_43 : decode cX0_slipsDrawn 43 = .ok (.iadd, 1) := by decide +kernel
theorem dX0_slipsDrawn_44 : decode cX0_slipsDrawn 44 = .ok (.istore_n 3, 1) := by decide +kernel
theorem dX0_slipsDrawn_45 : decode cX0_slipsDrawn 45 = .ok (.iload_n 3, 1) := by decide +kernel
theorem dX0_slipsDrawn_46 : decode cX0_slipsDrawn 46 = .ok (.bipush 8, 2) := by decide +kernel
theorem dX0_slipsDrawn_48 : decode cX0_slipsDrawn 48 = .ok (.iushr, 1) := by decide +kernel
theorem dX0_slipsDrawn_49 : decode cX0_slipsDrawn 49 = .ok (.bipush 100, 2) := by decide +kernel
theorem dX0_slipsDrawn_51 : decode cX0_slipsDrawn 51 = .ok (.irem, 1) := by decide +kernel
theorem dX0_slipsDrawn_52 : decode cX0_slipsDrawn 52 = .ok (.iconst 5, 1) := by decide +kernel
theorem dX0_slipsDrawn_53 : decode cX0_slipsDrawn 53 = .ok (.iload 6, 2) := by decide +kernel
theorem dX0_slipsDrawn_55 : decode cX0_slipsDrawn 55 = .ok (.imul, 1) := by decide +kernel
theorem dX0_slipsDrawn_56 : decode cX0_slipsDrawn 56 = .ok (.bipush 95, 2) := by decide +kernel
theorem dX0_slipsDrawn_58 : decode cX0_slipsDrawn 58 = .ok (.invokestatic 104, 3) := by decide +kernel
theorem dX0_slipsDrawn_61 : decode cX0_slipsDrawn 61 = .ok (.if_icmp .ge 18, 3) := by decide +kernel
theorem dX0_slipsDrawn_64 : decode cX0_slipsDrawn 64 = .ok (.iload 4, 2) := by decide +kernel
theorem dX0_slipsDrawn_66 : decode cX0_slipsDrawn 66 = .ok (.aload_n 0, 1) := by decide +kernel
theorem dX0_slipsDrawn_67 : decode cX0_slipsDrawn 67 = .ok (.iload 5, 2) := by decide +kernel
theorem dX0_slipsDrawn_69 : decode cX0_slipsDrawn 69 = .ok (.iload_n 3, 1) := by decide +kernel
theorem dX0_slipsDrawn_70 : decode cX0_slipsDrawn 70 = .ok (.bipush 20, 2) := by decide +kernel
theorem dX0_slipsDrawn_72 : decode cX0_slipsDrawn 72 = .ok (.iushr, 1) := by decide +kernel
theorem dX0_slipsDrawn_73 : decode cX0_slipsDrawn 73 = .ok (.invokevirtual 152, 3) := by decide +kernel
theorem dX0_slipsDrawn_76 : decode cX0_slipsDrawn 76 = .ok (.iadd, 1) := by decide +kernel
theorem dX0_slipsDrawn_77 : decode cX0_slipsDrawn 77 = .ok (.istore 4, 2) := by decide +kernel
theorem dX0_slipsDrawn_79 : decode cX0_slipsDrawn 79 = .ok (.iinc 5 1, 3) := by decide +kernel
theorem dX0_slipsDrawn_82 : decode cX0_slipsDrawn 82 = .ok (.goto (-74), 3) := by decide +kernel
theorem dX0_slipsDrawn_85 : decode cX0_slipsDrawn 85 = .ok (.iload 4, 2) := by decide +kernel
theorem dX0_slipsDrawn_87 : decode cX0_slipsDrawn 87 = .ok (.ireturn, 1) := by decide +kernel
theorem dX0_slipDrawn_0 : decode cX0_slipDrawn 0 = .ok (.aload_n 0, 1) := by decide +kernel
theorem dX0_slipDrawn_1 : decode cX0_slipDrawn 1 = .ok (.getfield 11, 3) := by decide +kernel
theorem dX0_slipDrawn_4 : decode cX0_slipDrawn 4 = .ok (.iload_n 1, 1) := by decide +kernel
theorem dX0_slipDrawn_5 : decode cX0_slipDrawn 5 = .ok (.iaload, 1) := by decide +kernel
theorem dX0_slipDrawn_6 : decode cX0_slipDrawn 6 = .ok (.ifCond .ne 27, 3) := by decide +kernel
theorem dX0_slipDrawn_9 : decode cX0_slipDrawn 9 = .ok (.iload_n 2, 1) := by decide +kernel
theorem dX0_slipDrawn_10 : decode cX0_slipDrawn 10 = .ok (.iconst 2, 1) := by decide +kernel
theorem dX0_slipDrawn_11 : decode cX0_slipDrawn 11 = .ok (.irem, 1) := by decide +kernel
theorem dX0_slipDrawn_12 : decode cX0_slipDrawn 12 = .ok (.iconst 1, 1) := by decide +kernel
theorem dX0_slipDrawn_13 : decode cX0_slipDrawn 13 = .ok (.if_icmp .ne 12, 3) := by decide +kernel
theorem dX0_slipDrawn_16 : decode cX0_slipDrawn 16 = .ok (.aload_n 0, 1) := by decide +kernel
theorem dX0_slipDrawn_17 : decode cX0_slipDrawn 17 = .ok (.getfield 24, 3) := by decide +kernel
theorem dX0_slipDrawn_20 : decode cX0_slipDrawn 20 = .ok (.iload_n 1, 1) := by decide +kernel
theorem dX0_slipDrawn_21 : decode cX0_slipDrawn 21 = .ok (.iaload, 1) := by decide +kernel
theorem dX0_slipDrawn_22 : decode cX0_slipDrawn 22 = .ok (.goto 10, 3) := by decide +kernel
theorem dX0_slipDrawn_25 : decode cX0_slipDrawn 25 = .ok (.aload_n 0, 1) := by decide +kernel
theorem dX0_slipDrawn_26 : decode cX0_slipDrawn 26 = .ok (.getfield 24, 3) := by decide +kernel
theorem dX0_slipDrawn_29 : decode cX0_slipDrawn 29 = .ok (.iload_n 1, 1) := by decide +kernel
theorem dX0_slipDrawn_30 : decode cX0_slipDrawn 30 = .ok (.iaload, 1) := by decide +kernel
theorem dX0_slipDrawn_31 : decode cX0_slipDrawn 31 = .ok (.ineg, 1) := by decide +kernel
theorem dX0_slipDrawn_32 : decode cX0_slipDrawn 32 = .ok (.ireturn, 1) := by decide +kernel
theorem dX0_slipDrawn_33 : decode cX0_slipDrawn 33 = .ok (.aload_n 0, 1) := by decide +kernel
theorem dX0_slipDrawn_34 : decode cX0_slipDrawn 34 = .ok (.getfield 11, 3) := by decide +kernel
theorem dX0_slipDrawn_37 : decode cX0_slipDrawn 37 = .ok (.iload_n 1, 1) := by decide +kernel
theorem dX0_slipDrawn_38 : decode cX0_slipDrawn 38 = .ok (.iaload, 1) := by decide +kernel
theorem dX0_slipDrawn_39 : decode cX0_slipDrawn 39 = .ok (.iconst 1, 1) := by decide +kernel
theorem dX0_slipDrawn_40 : decode cX0_slipDrawn 40 = .ok (.if_icmp .ne 38, 3) := by decide +kernel
theorem dX0_slipDrawn_43 : decode cX0_slipDrawn 43 = .ok (.aload_n 0, 1) := by decide +kernel
theorem dX0_slipDrawn_44 : decode cX0_slipDrawn 44 = .ok (.getfield 15, 3) := by decide +kernel
theorem dX0_slipDrawn_47 : decode cX0_slipDrawn 47 = .ok (.iload_n 1, 1) := by decide +kernel
theorem dX0_slipDrawn_48 : decode cX0_slipDrawn 48 = .ok (.iaload, 1) := by decide +kernel
theorem dX0_slipDrawn_49 : decode cX0_slipDrawn 49 = .ok (.i2l, 1) := by decide +kernel
theorem dX0_slipDrawn_50 : decode cX0_slipDrawn 50 = .ok (.invokestatic 114, 3) := by decide +kernel
theorem dX0_slipDrawn_53 : decode cX0_slipDrawn 53 = .ok (.istore_n 3, 1) := by decide +kernel
theorem dX0_slipDrawn_54 : decode cX0_slipDrawn 54 = .ok (.iload_n 3, 1) := by decide +kernel
theorem dX0_slipDrawn_55 : decode cX0_slipDrawn 55 = .ok (.iconst 1, 1) := by decide +kernel
theorem dX0_slipDrawn_56 : decode cX0_slipDrawn 56 = .ok (.if_icmp .ge 7, 3) := by decide +kernel
theorem dX0_slipDrawn_59 : decode cX0_slipDrawn 59 = .ok (.iconst 0, 1) := by decide +kernel
theorem dX0_slipDrawn_60 : decode cX0_slipDrawn 60 = .ok (.goto 17, 3) := by decide +kernel
theorem dX0_slipDrawn_63 : decode cX0_slipDrawn 63 = .ok (.aload_n 0, 1) := by decide +kernel
theorem dX0_slipDrawn_64 : decode cX0_slipDrawn 64 = .ok (.getfield 24, 3) := by decide +kernel
theorem dX0_slipDrawn_67 : decode cX0_slipDrawn 67 = .ok (.iload_n 1, 1) := by decide +kernel
theorem dX0_slipDrawn_68 : decode cX0_slipDrawn 68 = .ok (.iaload, 1) := by decide +kernel
theorem dX0_slipDrawn_69 : decode cX0_slipDrawn 69 = .ok (.ineg, 1) := by decide +kernel
theorem dX0_slipDrawn_70 : decode cX0_slipDrawn 70 = .ok (.iload_n 2, 1) := by decide +kernel
theorem dX0_slipDrawn_71 : decode cX0_slipDrawn 71 = .ok (.iload_n 3, 1) := by decide +kernel
theorem dX0_slipDrawn_72 : decode cX0_slipDrawn 72 = .ok (.irem, 1) := by decide +kernel
theorem dX0_slipDrawn_73 : decode cX0_slipDrawn 73 = .ok (.invokestatic 120, 3) := by decide +kernel
theorem dX0_slipDrawn_76 : decode cX0_slipDrawn 76 = .ok (.imul, 1) := by decide +kernel
theorem dX0_slipDrawn_77 : decode cX0_slipDrawn 77 = .ok (.ireturn, 1) := by decide +kernel
theorem dX0_slipDrawn_78 : decode cX0_slipDrawn 78 = .ok (.iconst 0, 1) := by decide +kernel
theorem dX0_slipDrawn_79 : decode cX0_slipDrawn 79 = .ok (.ireturn, 1) := by decide +kernel
theorem dX0_canSlip_0 : decode cX0_canSlip 0 = .ok (.aload_n 0, 1) := by decide +kernel
theorem dX0_canSlip_1 : decode cX0_canSlip 1 = .ok (.getfield 11, 3) := by decide +kernel
theorem dX0_canSlip_4 : decode cX0_canSlip 4 = .ok (.iload_n 1, 1) := by decide +kernel
theorem dX0_canSlip_5 : decode cX0_canSlip 5 = .ok (.iaload, 1) := by decide +kernel
theorem dX0_canSlip_6 : decode cX0_canSlip 6 = .ok (.ifCond .ne 30, 3) := by decide +kernel
theorem dX0_canSlip_9 : decode cX0_canSlip 9 = .ok (.iload_n 2, 1) := by decide +kernel
theorem dX0_canSlip_10 : decode cX0_canSlip 10 = .ok (.aload_n 0, 1) := by decide +kernel
theorem dX0_canSlip_11 : decode cX0_canSlip 11 = .ok (.getfield 24, 3) := by decide +kernel
theorem dX0_canSlip_14 : decode cX0_canSlip 14 = .ok (.iload_n 1, 1) := by decide +kernel
theorem dX0_canSlip_15 : decode cX0_canSlip 15 = .ok (.iaload, 1) := by decide +kernel
theorem dX0_canSlip_16 : decode cX0_canSlip 16 = .ok (.if_icmp .eq 14, 3) := by decide +kernel
theorem dX0_canSlip_19 : decode cX0_canSlip 19 = .ok (.iload_n 2, 1) := by decide +kernel
theorem dX0_canSlip_20 : decode cX0_canSlip 20 = .ok (.aload_n 0, 1) := by decide +kernel
theorem dX0_canSlip_21 : decode cX0_canSlip 21 = .ok (.getfield 24, 3) := by decide +kernel
theorem dX0_canSlip_24 : decode cX0_canSlip 24 = .ok (.iload_n 1, 1) := by decide +kernel
theorem dX0_canSlip_25 : decode cX0_canSlip 25 = .ok (.iaload, 1) := by decide +kernel
theorem dX0_canSlip_26 : decode cX0_canSlip 26 = .ok (.ineg, 1) := by decide +kernel
theorem dX0_canSlip_27 : decode cX0_canSlip 27 = .ok (.if_icmp .ne 7, 3) := by decide +kernel
theorem dX0_canSlip_30 : decode cX0_canSlip 30 = .ok (.iconst 1, 1) := by decide +kernel
theorem dX0_canSlip_31 : decode cX0_canSlip 31 = .ok (.goto 4, 3) := by decide +kernel
theorem dX0_canSlip_34 : decode cX0_canSlip 34 = .ok (.iconst 0, 1) := by decide +kernel
theorem dX0_canSlip_35 : decode cX0_canSlip 35 = .ok (.ireturn, 1) := by decide +kernel
theorem dX0_canSlip_36 : decode cX0_canSlip 36 = .ok (.aload_n 0, 1) := by decide +kernel
theorem dX0_canSlip_37 : decode cX0_canSlip 37 = .ok (.getfield 11, 3) := by decide +kernel
theorem dX0_canSlip_40 : decode cX0_canSlip 40 = .ok (.iload_n 1, 1) := by decide +kernel
theorem dX0_canSlip_41 : decode cX0_canSlip 41 = .ok (.iaload, 1) := by decide +kernel
theorem dX0_canSlip_42 : decode cX0_canSlip 42 = .ok (.iconst 1, 1) := by decide +kernel
theorem dX0_canSlip_43 : decode cX0_canSlip 43 = .ok (.if_icmp .ne 44, 3) := by decide +kernel
theorem dX0_canSlip_46 : decode cX0_canSlip 46 = .ok (.aload_n 0, 1) := by decide +kernel
theorem dX0_canSlip_47 : decode cX0_canSlip 47 = .ok (.getfield 15, 3) := by decide +kernel
theorem dX0_canSlip_50 : decode cX0_canSlip 50 = .ok (.iload_n 1, 1) := by decide +kernel
theorem dX0_canSlip_51 : decode cX0_canSlip 51 = .ok (.iaload, 1) := by decide +kernel
theorem dX0_canSlip_52 : decode cX0_canSlip 52 = .ok (.i2l, 1) := by decide +kernel
theorem dX0_canSlip_53 : decode cX0_canSlip 53 = .ok (.invokestatic 114, 3) := by decide +kernel
theorem dX0_canSlip_56 : decode cX0_canSlip 56 = .ok (.iconst 1, 1) := by decide +kernel
theorem dX0_canSlip_57 : decode cX0_canSlip 57 = .ok (.isub, 1) := by decide +kernel
theorem dX0_canSlip_58 : decode cX0_canSlip 58 = .ok (.istore_n 3, 1) := by decide +kernel
theorem dX0_canSlip_59 : decode cX0_canSlip 59 = .ok (.iload_n 3, 1) := by decide +kernel
theorem dX0_canSlip_60 : decode cX0_canSlip 60 = .ok (.ifCond .lt 27, 3) := by decide +kernel
theorem dX0_canSlip_63 : decode cX0_canSlip 63 = .ok (.iload_n 2, 1) := by decide +kernel
theorem dX0_canSlip_64 : decode cX0_canSlip 64 = .ok (.aload_n 0, 1) := by decide +kernel
theorem dX0_canSlip_65 : decode cX0_canSlip 65 = .ok (.getfield 24, 3) := by decide +kernel
theorem dX0_canSlip_68 : decode cX0_canSlip 68 = .ok (.iload_n 1, 1) := by decide +kernel
theorem dX0_canSlip_69 : decode cX0_canSlip 69 = .ok (.iaload, 1) := by decide +kernel
theorem dX0_canSlip_70 : decode cX0_canSlip 70 = .ok (.ineg, 1) := by decide +kernel
theorem dX0_canSlip_71 : decode cX0_canSlip 71 = .ok (.iload_n 3, 1) := by decide +kernel
theorem dX0_canSlip_72 : decode cX0_canSlip 72 = .ok (.invokestatic 120, 3) := by decide +kernel
theorem dX0_canSlip_75 : decode cX0_canSlip 75 = .ok (.imul, 1) := by decide +kernel
theorem dX0_canSlip_76 : decode cX0_canSlip 76 = .ok (.if_icmp .ne 5, 3) := by decide +kernel
theorem dX0_canSlip_79 : decode cX0_canSlip 79 = .ok (.iconst 1, 1) := by decide +kernel
theorem dX0_canSlip_80 : decode cX0_canSlip 80 = .ok (.ireturn, 1) := by decide +kernel
theorem dX0_canSlip_81 : decode cX0_canSlip 81 = .ok (.iinc 3 (-1), 3) := by decide +kernel
theorem dX0_canSlip_84 : decode cX0_canSlip 84 = .ok (.goto (-25), 3) := by decide +kernel
theorem dX0_canSlip_87 : decode cX0_canSlip 87 = .ok (.iconst 0, 1) := by decide +kernel
theorem dX0_canSlip_88 : decode cX0_canSlip 88 = .ok (.ireturn, 1) := by decide +kernel
theorem dX0_firstThatCan_0 : decode cX0_firstThatCan 0 = .ok (.iconst 0, 1) := by decide +kernel
theorem dX0_firstThatCan_1 : decode cX0_firstThatCan 1 = .ok (.istore_n 2, 1) := by decide +kernel
theorem dX0_firstThatCan_2 : decode cX0_firstThatCan 2 = .ok (.iload_n 2, 1) := by decide +kernel
theorem dX0_firstThatCan_3 : decode cX0_firstThatCan 3 = .ok (.aload_n 0, 1) := by decide +kernel
theorem dX0_firstThatCan_4 : decode cX0_firstThatCan 4 = .ok (.getfield 30, 3) := by decide +kernel
theorem dX0_firstThatCan_7 : decode cX0_firstThatCan 7 = .ok (.if_icmp .ge 20, 3) := by decide +kernel
theorem dX0_firstThatCan_10 : decode cX0_firstThatCan 10 = .ok (.aload_n 0, 1) := by decide +kernel
theorem dX0_firstThatCan_11 : decode cX0_firstThatCan 11 = .ok (.iload_n 2, 1) := by decide +kernel
theorem dX0_firstThatCan_12 : decode cX0_firstThatCan 12 = .ok (.iload_n 1, 1) := by decide +kernel
theorem dX0_firstThatCan_13 : decode cX0_firstThatCan 13 = .ok (.invokevirtual 155, 3) := by decide +kernel
theorem dX0_firstThatCan_16 : decode cX0_firstThatCan 16 = .ok (.ifCond .eq 5, 3) := by decide +kernel
theorem dX0_firstThatCan_19 : decode cX0_firstThatCan 19 = .ok (.iload_n 2, 1) := by decide +kernel
theorem dX0_firstThatCan_20 : decode cX0_firstThatCan 20 = .ok (.ireturn, 1) := by decide +kernel
theorem dX0_firstThatCan_21 : decode cX0_firstThatCan 21 = .ok (.iinc 2 1, 3) := by decide +kernel
theorem dX0_firstThatCan_24 : decode cX0_firstThatCan 24 = .ok (.goto (-22), 3) := by decide +kernel
theorem dX0_firstThatCan_27 : decode cX0_firstThatCan 27 = .ok (.bipush (-2), 2) := by decide +kernel
theorem dX0_firstThatCan_29 : decode cX0_firstThatCan 29 = .ok (.ireturn, 1) := by decide +kernel
theorem dX0_howManyCan_0 : decode cX0_howManyCan 0 = .ok (.iconst 0, 1) := by decide +kernel
theorem dX0_howManyCan_1 : decode cX0_howManyCan 1 = .ok (.istore_n 2, 1) := by decide +kernel
theorem dX0_howManyCan_2 : decode cX0_howManyCan 2 = .ok (.iconst 0, 1) := by decide +kernel
theorem dX0_howManyCan_3 : decode cX0_howManyCan 3 = .ok (.istore_n 3, 1) := by decide +kernel
theorem dX0_howManyCan_4 : decode cX0_howManyCan 4 = .ok (.iload_n 3, 1) := by decide +kernel
theorem dX0_howManyCan_5 : decode cX0_howManyCan 5 = .ok (.aload_n 0, 1) := by decide +kernel
theorem dX0_howManyCan_6 : decode cX0_howManyCan 6 = .ok (.getfield 30, 3) := by decide +kernel
theorem dX0_howManyCan_9 : decode cX0_howManyCan 9 = .ok (.if_icmp .ge 21, 3) := by decide +kernel
theorem dX0_howManyCan_12 : decode cX0_howManyCan 12 = .ok (.aload_n 0, 1) := by decide +kernel
theorem dX0_howManyCan_13 : decode cX0_howManyCan 13 = .ok (.iload_n 3, 1) := by decide +kernel
theorem dX0_howManyCan_14 : decode cX0_howManyCan 14 = .ok (.iload_n 1, 1) := by decide +kernel
theorem dX0_howManyCan_15 : decode cX0_howManyCan 15 = .ok (.invokevirtual 155, 3) := by decide +kernel
theorem dX0_howManyCan_18 : decode cX0_howManyCan 18 = .ok (.ifCond .eq 6, 3) := by decide +kernel
theorem dX0_howManyCan_21 : decode cX0_howManyCan 21 = .ok (.iinc 2 1, 3) := by decide +kernel
theorem dX0_howManyCan_24 : decode cX0_howManyCan 24 = .ok (.iinc 3 1, 3) := by decide +kernel
theorem dX0_howManyCan_27 : decode cX0_howManyCan 27 = .ok (.goto (-23), 3) := by decide +kernel
theorem dX0_howManyCan_30 : decode cX0_howManyCan 30 = .ok (.iload_n 2, 1) := by decide +kernel
theorem dX0_howManyCan_31 : decode cX0_howManyCan 31 = .ok (.ireturn, 1) := by decide +kernel
theorem dX1_init_0 : decode cX1_init 0 = .ok (.aload_n 0, 1) := by decide +kernel
theorem dX1_init_1 : decode cX1_init 1 = .ok (.invokespecial 3, 3) := by decide +kernel
theorem dX1_init_4 : decode cX1_init 4 = .ok (.aload_n 0, 1) := by decide +kernel
theorem dX1_init_5 : decode cX1_init 5 = .ok (.bipush 50, 2) := by decide +kernel
theorem dX1_init_7 : decode cX1_init 7 = .ok (.newarray .int, 2) := by decide +kernel
theorem dX1_init_9 : decode cX1_init 9 = .ok (.putfield 11, 3) := by decide +kernel
theorem dX1_init_12 : decode cX1_init 12 = .ok (.aload_n 0, 1) := by decide +kernel
theorem dX1_init_13 : decode cX1_init 13 = .ok (.bipush 24, 2) := by decide +kernel
theorem dX1_init_15 : decode cX1_init 15 = .ok (.newarray .int, 2) := by decide +kernel
theorem dX1_init_17 : decode cX1_init 17 = .ok (.putfield 15, 3) := by decide +kernel
theorem dX1_init_20 : decode cX1_init 20 = .ok (.return_, 1) := by decide +kernel
theorem dX1_isKind_0 : decode cX1_isKind 0 = .ok (.iload_n 0, 1) := by decide +kernel
theorem dX1_isKind_1 : decode cX1_isKind 1 = .ok (.ifCond .lt 13, 3) := by decide +kernel
theorem dX1_isKind_4 : decode cX1_isKind 4 = .ok (.iload_n 0, 1) := by decide +kernel
theorem dX1_isKind_5 : decode cX1_isKind 5 = .ok (.bipush 8, 2) := by decide +kernel
theorem dX1_isKind_7 : decode cX1_isKind 7 = .ok (.if_icmp .ge 7, 3) := by decide +kernel
theorem dX1_isKind_10 : decode cX1_isKind 10 = .ok (.iconst 1, 1) := by decide +kernel
theorem dX1_isKind_11 : decode cX1_isKind 11 = .ok (.goto 4, 3) := by decide +kernel
theorem dX1_isKind_14 : decode cX1_isKind 14 = .ok (.iconst 0, 1) := by decide +kernel
theorem dX1_isKind_15 : decode cX1_isKind 15 = .ok (.ireturn, 1) := by decide +kernel
theorem dX1_isUnder_0 : decode cX1_isUnder 0 = .ok (.iload_n 0, 1) := by decide +kernel
theorem dX1_isUnder_1 : decode cX1_isUnder 1 = .ok (.istore_n 2, 1) := by decide +kernel
theorem dX1_isUnder_2 : decode cX1_isUnder 2 = .ok (.iconst 0, 1) := by decide +kernel
theorem dX1_isUnder_3 : decode cX1_isUnder 3 = .ok (.istore_n 3, 1) := by decide +kernel
theorem dX1_isUnder_4 : decode cX1_isUnder 4 = .ok (.iload_n 3, 1) := by decide +kernel
theorem dX1_isUnder_5 : decode cX1_isUnder 5 = .ok (.bipush 8, 2) := by decide +kernel
theorem dX1_isUnder_7 : decode cX1_isUnder 7 = .ok (.if_icmp .ge 29, 3) := by decide +kernel
theorem dX1_isUnder_10 : decode cX1_isUnder 10 = .ok (.iload_n 2, 1) := by decide +kernel
theorem dX1_isUnder_11 : decode cX1_isUnder 11 = .ok (.invokestatic 18, 3) := by decide +kernel
theorem dX1_isUnder_14 : decode cX1_isUnder 14 = .ok (.ifCond .eq 22, 3) := by decide +kernel
theorem dX1_isUnder_17 : decode cX1_isUnder 17 = .ok (.iload_n 2, 1) := by decide +kernel
theorem dX1_isUnder_18 : decode cX1_isUnder 18 = .ok (.iload_n 1, 1) := by decide +kernel
theorem dX1_isUnder_19 : decode cX1_isUnder 19 = .ok (.if_icmp .ne 5, 3) := by decide +kernel
theorem dX1_isUnder_22 : decode cX1_isUnder 22 = .ok (.iconst 1, 1) := by decide +kernel
theorem dX1_isUnder_23 : decode cX1_isUnder 23 = .ok (.ireturn, 1) := by decide +kernel
theorem dX1_isUnder_24 : decode cX1_isUnder 24 = .ok (.getstatic 22, 3) := by decide +kernel
theorem dX1_isUnder_27 : decode cX1_isUnder 27 = .ok (.iload_n 2, 1) := by decide +kernel
theorem dX1_isUnder_28 : decode cX1_isUnder 28 = .ok (.iaload, 1) := by decide +kernel
theorem dX1_isUnder_29 : decode cX1_isUnder 29 = .ok (.istore_n 2, 1) := by decide +kernel
theorem dX1_isUnder_30 : decode cX1_isUnder 30 = .ok (.iinc 3 1, 3) := by decide +kernel
theorem dX1_isUnder_33 : decode cX1_isUnder 33 = .ok (.goto (-29), 3) := by decide +kernel
theorem dX1_isUnder_36 : decode cX1_isUnder 36 = .ok (.iconst 0, 1) := by decide +kernel
theorem dX1_isUnder_37 : decode cX1_isUnder 37 = .ok (.ireturn, 1) := by decide +kernel
theorem dX1_size_0 : decode cX1_size 0 = .ok (.aload_n 0, 1) := by decide +kernel
theorem dX1_size_1 : decode cX1_size 1 = .ok (.getfield 25, 3) := by decide +kernel
theorem dX1_size_4 : decode cX1_size 4 = .ok (.ireturn, 1) := by decide +kernel
theorem dX1_ranCount_0 : decode cX1_ranCount 0 = .ok (.aload_n 0, 1) := by decide +kernel
theorem dX1_ranCount_1 : decode cX1_ranCount 1 = .ok (.getfield 29, 3) := by decide +kernel
theorem dX1_ranCount_4 : decode cX1_ranCount 4 = .ok (.ireturn, 1) := by decide +kernel
theorem dX1_has_0 : decode cX1_has 0 = .ok (.iload_n 1, 1) := by decide +kernel
theorem dX1_has_1 : decode cX1_has 1 = .ok (.ifCond .lt 15, 3) := by decide +kernel
theorem dX1_has_4 : decode cX1_has 4 = .ok (.iload_n 1, 1) := by decide +kernel
theorem dX1_has_5 : decode cX1_has 5 = .ok (.aload_n 0, 1) := by decide +kernel
theorem dX1_has_6 : decode cX1_has 6 = .ok (.getfield 25, 3) := by decide +kernel
theorem dX1_has_9 : decode cX1_has 9 = .ok (.if_icmp .ge 7, 3) := by decide +kernel
theorem dX1_has_12 : decode cX1_has 12 = .ok (.iconst 1, 1) := by decide +kernel
theorem dX1_has_13 : decode cX1_has 13 = .ok (.goto 4, 3) := by decide +kernel
theorem dX1_has_16 : decode cX1_has 16 = .ok (.iconst 0, 1) := by decide +kernel
theorem dX1_has_17 : decode cX1_has 17 = .ok (.ireturn, 1) := by decide +kernel
theorem dX1_kindOf_0 : decode cX1_kindOf 0 = .ok (.aload_n 0, 1) := by decide +kernel
theorem dX1_kindOf_1 : decode cX1_kindOf 1 = .ok (.iload_n 1, 1) := by decide +kernel
theorem dX1_kindOf_2 : decode cX1_kindOf 2 = .ok (.invokevirtual 32, 3) := by decide +kernel
theorem dX1_kindOf_5 : decode cX1_kindOf 5 = .ok (.ifCond .eq 12, 3) := by decide +kernel
theorem dX1_kindOf_8 : decode cX1_kindOf 8 = .ok (.aload_n 0, 1) := by decide +kernel
theorem dX1_kindOf_9 : decode cX1_kindOf 9 = .ok (.getfield 11, 3) := by decide +kernel
theorem dX1_kindOf_12 : decode cX1_kindOf 12 = .ok (.iload_n 1, 1) := by decide +kernel
theorem dX1_kindOf_13 : decode cX1_kindOf 13 = .ok (.iaload, 1) := by decide +kernel
theorem dX1_kindOf_14 : decode cX1_kindOf 14 = .ok (.goto 4, 3) := by decide +kernel
theorem dX1_kindOf_17 : decode cX1_kindOf 17 = .ok (.iconst (-1), 1) := by decide +kernel
theorem dX1_kindOf_18 : decode cX1_kindOf 18 = .ok (.ireturn, 1) := by decide +kernel
theorem dX1_takes_0 : decode cX1_takes 0 = .ok (.aload_n 0, 1) := by decide +kernel
theorem dX1_takes_1 : decode cX1_takes 1 = .ok (.getfield 25, 3) := by decide +kernel
theorem dX1_takes_4 : decode cX1_takes 4 = .ok (.bipush 50, 2) := by decide +kernel
theorem dX1_takes_6 : decode cX1_takes 6 = .ok (.if_icmp .lt 5, 3) := by decide +kernel
theorem dX1_takes_9 : decode cX1_takes 9 = .ok (.iconst 0, 1) := by decide +kernel
theorem dX1_takes_10 : decode cX1_takes 10 = .ok (.ireturn, 1) := by decide +kernel
theorem dX1_takes_11 : decode cX1_takes 11 = .ok (.aload_n 0, 1) := by decide +kernel
theorem dX1_takes_12 : decode cX1_takes 12 = .ok (.getfield 11, 3) := by decide +kernel
theorem dX1_takes_15 : decode cX1_takes 15 = .ok (.aload_n 0, 1) := by decide +kernel
theorem dX1_takes_16 : decode cX1_takes 16 = .ok (.getfield 25, 3) := by decide +kernel
theorem dX1_takes_19 : decode cX1_takes 19 = .ok (.iload_n 1, 1) := by decide +kernel
theorem dX1_takes_20 : decode cX1_takes 20 = .ok (.iastore, 1) := by decide +kernel
theorem dX1_takes_21 : decode cX1_takes 21 = .ok (.aload_n 0, 1) := by decide +kernel
theorem dX1_takes_22 : decode cX1_takes 22 = .ok (.dup, 1) := by decide +kernel
theorem dX1_takes_23 : decode cX1_takes 23 = .ok (.getfield 25, 3) := by decide +kernel
theorem dX1_takes_26 : decode cX1_takes 26 = .ok (.iconst 1, 1) := by decide +kernel
theorem dX1_takes_27 : decode cX1_takes 27 = .ok (.iadd, 1) := by decide +kernel
theorem dX1_takes_28 : decode cX1_takes 28 = .ok (.putfield 25, 3) := by decide +kernel
theorem dX1_takes_31 : decode cX1_takes 31 = .ok (.iconst 1, 1) := by decide +kernel
theorem dX1_takes_32 : decode cX1_takes 32 = .ok (.ireturn, 1) := by decide +kernel
theorem dX1_traced_0 : decode cX1_traced 0 = .ok (.iload_n 1, 1) := by decide +kernel
theorem dX1_traced_1 : decode cX1_traced 1 = .ok (.ifCond .lt 26, 3) := by decide +kernel
theorem dX1_traced_4 : decode cX1_traced 4 = .ok (.iload_n 1, 1) := by decide +kernel
theorem dX1_traced_5 : decode cX1_traced 5 = .ok (.aload_n 0, 1) := by decide +kernel
theorem dX1_traced_6 : decode cX1_traced 6 = .ok (.getfield 29, 3) := by decide +kernel
theorem dX1_traced_9 : decode cX1_traced 9 = .ok (.if_icmp .ge 18, 3) := by decide +kernel
theorem dX1_traced_12 : decode cX1_traced 12 = .ok (.iload_n 1, 1) := by decide +kernel
theorem dX1_traced_13 : decode cX1_traced 13 = .ok (.bipush 24, 2) := by decide +kernel
theorem dX1_traced_15 : decode cX1_traced 15 = .ok (.if_icmp .ge 12, 3) := by decide +kernel
theorem dX1_traced_18 : decode cX1_traced 18 = .ok (.aload_n 0, 1) := by decide +kernel
theorem dX1_traced_19 : decode cX1_traced 19 = .ok (.getfield 15, 3) := by decide +kernel
theorem dX1_traced_22 : decode cX1_traced 22 = .ok (.iload_n 1, 1) := by decide +kernel
theorem dX1_traced_23 : decode cX1_traced 23 = .ok (.iaload, 1) := by decide +kernel
theorem dX1_traced_24 : decode cX1_traced 24 = .ok (.goto 4, 3) := by decide +kernel
theorem dX1_traced_27 : decode cX1_traced 27 = .ok (.iconst (-1), 1) := by decide +kernel
theorem dX1_traced_28 : decode cX1_traced 28 = .ok (.ireturn, 1) := by decide +kernel
theorem dX1_start_0 : decode cX1_start 0 = .ok (.aload_n 0, 1) := by decide +kernel
theorem dX1_start_1 : decode cX1_start 1 = .ok (.iconst 0, 1) := by decide +kernel
theorem dX1_start_2 : decode cX1_start 2 = .ok (.putfield 29, 3) := by decide +kernel
theorem dX1_start_5 : decode cX1_start 5 = .ok (.aload_n 0, 1) := by decide +kernel
theorem dX1_start_6 : decode cX1_start 6 = .ok (.iload_n 1, 1) := by decide +kernel
theorem dX1_start_7 : decode cX1_start 7 = .ok (.invokevirtual 32, 3) := by decide +kernel
theorem dX1_start_10 : decode cX1_start 10 = .ok (.ifCond .eq 12, 3) := by decide +kernel
theorem dX1_start_13 : decode cX1_start 13 = .ok (.iload_n 2, 1) := by decide +kernel
theorem dX1_start_14 : decode cX1_start 14 = .ok (.ifCond .lt 8, 3) := by decide +kernel
theorem dX1_start_17 : decode cX1_start 17 = .ok (.iload_n 2, 1) := by decide +kernel
theorem dX1_start_18 : decode cX1_start 18 = .ok (.iconst 4, 1) := by decide +kernel
theorem dX1_start_19 : decode cX1_start 19 = .ok (.if_icmp .lt 5, 3) := by decide +kernel
theorem dX1_start_22 : decode cX1_start 22 = .ok (.iconst 0, 1) := by decide +kernel
theorem dX1_start_23 : decode cX1_start 23 = .ok (.ireturn, 1) := by decide +kernel
theorem dX1_start_24 : decode cX1_start 24 = .ok (.aload_n 0, 1) := by decide +kernel
theorem dX1_start_25 : decode cX1_start 25 = .ok (.iload_n 1, 1) := by decide +kernel
theorem dX1_start_26 : decode cX1_start 26 = .ok (.putfield 35, 3) := by decide +kernel
theorem dX1_start_29 : decode cX1_start 29 = .ok (.aload_n 0, 1) := by decide +kernel
theorem dX1_start_30 : decode cX1_start 30 = .ok (.iload_n 2, 1) := by decide +kernel
theorem dX1_start_31 : decode cX1_start 31 = .ok (.iload_n 3, 1) := by decide +kernel
theorem dX1_start_32 : decode cX1_start 32 = .ok (.iconst 0, 1) := by decide +kernel
theorem dX1_start_33 : decode cX1_start 33 = .ok (.invokevirtual 38, 3) := by decide +kernel
theorem dX1_start_36 : decode cX1_start 36 = .ok (.ireturn, 1) := by decide +kernel
theorem dX1_own_0 : decode cX1_own 0 = .ok (.aload_n 0, 1) := by decide +kernel
theorem dX1_own_1 : decode cX1_own 1 = .ok (.aload_n 0, 1) := by decide +kernel
theorem dX1_own_2 : decode cX1_own 2 = .ok (.aload_n 0, 1) := by decide +kernel
theorem dX1_own_3 : decode cX1_own 3 = .ok (.getfield 35, 3) := by decide +kernel
theorem dX1_own_6 : decode cX1_own 6 = .ok (.invokevirtual 42, 3) := by decide +kernel
theorem dX1_own_9 : decode cX1_own 9 = .ok (.iload_n 1, 1) := by decide +kernel
theorem dX1_own_10 : decode cX1_own 10 = .ok (.iload_n 2, 1) := by decide +kernel
theorem dX1_own_11 : decode cX1_own 11 = .ok (.iload_n 3, 1) := by decide +kernel
theorem dX1_own_12 : decode cX1_own 12 = .ok (.invokevirtual 46, 3) := by decide +kernel
theorem dX1_own_15 : decode cX1_own 15 = .ok (.ireturn, 1) := by decide +kernel
theorem dX1_fromAbove_0 : decode cX1_fromAbove 0 = .ok (.aload_n 0, 1) := by decide +kernel
theorem dX1_fromAbove_1 : decode cX1_fromAbove 1 = .ok (.iload_n 1, 1) := by decide +kernel
theorem dX1_fromAbove_2 : decode cX1_fromAbove 2 = .ok (.invokestatic 18, 3) := by decide +kernel
theorem dX1_fromAbove_5 : decode cX1_fromAbove 5 = .ok (.ifCond .eq 11, 3) := by decide +kernel
theorem dX1_fromAbove_8 : decode cX1_fromAbove 8 = .ok (.getstatic 22, 3) := by decide +kernel
theorem dX1_fromAbove_11 : decode cX1_fromAbove 11 = .ok (.iload_n 1, 1) := by decide +kernel
theorem dX1_fromAbove_12 : decode cX1_fromAbove 12 = .ok (.iaload, 1) := by decide +kernel
theorem dX1_fromAbove_13 : decode cX1_fromAbove 13 = .ok (.goto 4, 3) := by decide +kernel
theorem dX1_fromAbove_16 : decode cX1_fromAbove 16 = .ok (.iconst (-1), 1) := by decide +kernel
theorem dX1_fromAbove_17 : decode cX1_fromAbove 17 = .ok (.iload_n 2, 1) := by decide +kernel
theorem dX1_fromAbove_18 : decode cX1_fromAbove 18 = .ok (.iload_n 3, 1) := by decide +kernel
theorem dX1_fromAbove_19 : decode cX1_fromAbove 19 = .ok (.iload 4, 2) := by decide +kernel
theorem dX1_fromAbove_21 : decode cX1_fromAbove 21 = .ok (.invokevirtual 46, 3) := by decide +kernel
theorem dX1_fromAbove_24 : decode cX1_fromAbove 24 = .ok (.ireturn, 1) := by decide +kernel
theorem dX1_nearest_0 : decode cX1_nearest 0 = .ok (.iload_n 1, 1) := by decide +kernel
theorem dX1_nearest_1 : decode cX1_nearest 1 = .ok (.istore 5, 2) := by decide +kernel
theorem dX1_nearest_3 : decode cX1_nearest 3 = .ok (.iconst 0, 1) := by decide +kernel
theorem dX1_nearest_4 : decode cX1_nearest 4 = .ok (.istore 6, 2) := by decide +kernel
theorem dX1_nearest_6 : decode cX1_nearest 6 = .ok (.iload 6, 2) := by decide +kernel
theorem dX1_nearest_8 : decode cX1_nearest 8 = .ok (.bipush 8, 2) := by decide +kernel
theorem dX1_nearest_10 : decode cX1_nearest 10 = .ok (.if_icmp .ge 65, 3) := by decide +kernel
theorem dX1_nearest_13 : decode cX1_nearest 13 = .ok (.iload 5, 2) := by decide +kernel
theorem dX1_nearest_15 : decode cX1_nearest 15 = .ok (.invokestatic 18, 3) := by decide +kernel
theorem dX1_nearest_18 : decode cX1_nearest 18 = .ok (.ifCond .eq 57, 3) := by decide +kernel
theorem dX1_nearest_21 : decode cX1_nearest 21 = .ok (.getstatic 50, 3) := by decide +kernel
theorem dX1_nearest_24 : decode cX1_nearest 24 = .ok (.iload 5, 2) := by decide +kernel
theorem dX1_nearest_26 : decode cX1_nearest 26 = .ok (.iconst 4, 1) := by decide +kernel
theorem dX1_nearest_27 : decode cX1_nearest 27 = .ok (.imul, 1) := by decide +kernel
theorem dX1_nearest_28 : decode cX1_nearest 28 = .ok (.iload_n 2, 1) := by decide +kernel
theorem dX1_nearest_29 : decode cX1_nearest 29 = .ok (.iadd, 1) := by decide +kernel
theorem dX1_nearest_30 : decode cX1_nearest 30 = .ok (.iaload, 1) := by decide +kernel
theorem dX1_nearest_31 : decode cX1_nearest 31 = .ok (.istore 7, 2) := by decide +kernel
theorem dX1_nearest_33 : decode cX1_nearest 33 = .ok (.iload 7, 2) := by decide +kernel
theorem dX1_nearest_35 : decode cX1_nearest 35 = .ok (.ifCond .eq 26, 3) := by decide +kernel
theorem dX1_nearest_38 : decode cX1_nearest 38 = .ok (.iload 4, 2) := by decide +kernel
theorem dX1_nearest_40 : decode cX1_nearest 40 = .ok (.bipush 40, 2) := by decide +kernel
theorem dX1_nearest_42 : decode cX1_nearest 42 = .ok (.if_icmp .ge 17, 3) := by decide +kernel
theorem dX1_nearest_45 : decode cX1_nearest 45 = .ok (.aload_n 0, 1) := by decide +kernel
theorem dX1_nearest_46 : decode cX1_nearest 46 = .ok (.iload 7, 2) := by decide +kernel
theorem dX1_nearest_48 : decode cX1_nearest 48 = .ok (.iload_n 3, 1) := by decide +kernel
theorem dX1_nearest_49 : decode cX1_nearest 49 = .ok (.iload 4, 2) := by decide +kernel
theorem dX1_nearest_51 : decode cX1_nearest 51 = .ok (.iconst 1, 1) := by decide +kernel
theorem dX1_nearest_52 : decode cX1_nearest 52 = .ok (.iadd, 1) := by decide +kernel
theorem dX1_nearest_53 : decode cX1_nearest 53 = .ok (.invokevirtual 53, 3) := by decide +kernel
theorem dX1_nearest_56 : decode cX1_nearest 56 = .ok (.goto 4, 3) := by decide +kernel
theorem dX1_nearest_59 : decode cX1_nearest 59 = .ok (.iconst 0, 1) := by decide +kernel
theorem dX1_nearest_60 : decode cX1_nearest 60 = .ok (.ireturn, 1) := by decide +kernel
theorem dX1_nearest_61 : decode cX1_nearest 61 = .ok (.getstatic 22, 3) := by decide +kernel
theorem dX1_nearest_64 : decode cX1_nearest 64 = .ok (.iload 5, 2) := by decide +kernel
theorem dX1_nearest_66 : decode cX1_nearest 66 = .ok (.iaload, 1) := by decide +kernel
theorem dX1_nearest_67 : decode cX1_nearest 67 = .ok (.istore 5, 2) := by decide +kernel
theorem dX1_nearest_69 : decode cX1_nearest 69 = .ok (.iinc 6 1, 3) := by decide +kernel
theorem dX1_nearest_72 : decode cX1_nearest 72 = .ok (.goto (-66), 3) := by decide +kernel
theorem dX1_nearest_75 : decode cX1_nearest 75 = .ok (.iconst 0, 1) := by decide +kernel
theorem dX1_nearest_76 : decode cX1_nearest 76 = .ok (.ireturn, 1) := by decide +kernel
theorem dX1_run_0 : decode cX1_run 0 = .ok (.aload_n 0, 1) := by decide +kernel
theorem dX1_run_1 : decode cX1_run 1 = .ok (.iload_n 1, 1) := by decide +kernel
theorem dX1_run_2 : decode cX1_run 2 = .ok (.invokevirtual 56, 3) := by decide +kernel
theorem dX1_run_5 : decode cX1_run 5 = .ok (.iload_n 1, 1) := by decide +kernel
theorem dX1_run_6 : decode cX1_run 6 = .ok (.lookupswitch 267 #[(1, 114), (2, 121), (10, 137), (11, 147), (20, 154), (30, 165), (40, 175), (50, 186), (60, 197), (61, 208), (70, 225), (80, 237), (81, 249)], 114) := by decide +kernel
theorem dX1_run_120 : decode cX1_run 120 = .ok (.iload_n 2, 1) := by decide +kernel
theorem dX1_run_121 : decode cX1_run 121 = .ok (.aload_n 0, 1) := by decide +kernel
theorem dX1_run_122 : decode cX1_run 122 = .ok (.getfield 35, 3) := by decide +kernel
theorem dX1_run_125 : decode cX1_run 125 = .ok (.iadd, 1) := by decide +kernel
theorem dX1_run_126 : decode cX1_run 126 = .ok (.ireturn, 1) := by decide +kernel
theorem dX1_run_127 : decode cX1_run 127 = .ok (.aload_n 0, 1) := by decide +kernel
theorem dX1_run_128 : decode cX1_run 128 = .ok (.iconst 1, 1) := by decide +kernel
theorem dX1_run_129 : decode cX1_run 129 = .ok (.iload_n 2, 1) := by decide +kernel
theorem dX1_run_130 : decode cX1_run 130 = .ok (.iload_n 3, 1) := by decide +kernel
theorem dX1_run_131 : decode cX1_run 131 = .ok (.invokevirtual 38, 3) := by decide +kernel
theorem dX1_run_134 : decode cX1_run 134 = .ok (.aload_n 0, 1) := by decide +kernel
theorem dX1_run_135 : decode cX1_run 135 = .ok (.iconst 2, 1) := by decide +kernel
theorem dX1_run_136 : decode cX1_run 136 = .ok (.iconst 1, 1) := by decide +kernel
theorem dX1_run_137 : decode cX1_run 137 = .ok (.iload_n 3, 1) := by decide +kernel
theorem dX1_run_138 : decode cX1_run 138 = .ok (.invokevirtual 38, 3) := by decide +kernel
theorem dX1_run_141 : decode cX1_run 141 = .ok (.isub, 1) := by decide +kernel
theorem dX1_run_142 : decode cX1_run 142 = .ok (.ireturn, 1) := by decide +kernel
theorem dX1_run_143 : decode cX1_run 143 = .ok (.aload_n 0, 1) := by decide +kernel
theorem dX1_run_144 : decode cX1_run 144 = .ok (.iconst 0, 1) := by decide +kernel
theorem dX1_run_145 : decode cX1_run 145 = .ok (.iload_n 2, 1) := by decide +kernel
theorem dX1_run_146 : decode cX1_run 146 = .ok (.iload_n 3, 1) := by decide +kernel
theorem dX1_run_147 : decode cX1_run 147 = .ok (.invokevirtual 38, 3) := by decide +kernel
theorem dX1_run_150 : decode cX1_run 150 = .ok (.iconst 2, 1) := by decide +kernel
theorem dX1_run_151 : decode cX1_run 151 = .ok (.imul, 1) := by decide +kernel
theorem dX1_run_152 : decode cX1_run 152 = .ok (.ireturn, 1) := by decide +kernel
theorem dX1_run_153 : decode cX1_run 153 = .ok (.iload_n 2, 1) := by decide +kernel
theorem dX1_run_154 : decode cX1_run 154 = .ok (.aload_n 0, 1) := by decide +kernel
theorem dX1_run_155 : decode cX1_run 155 = .ok (.getfield 35, 3) := by decide +kernel
theorem dX1_run_158 : decode cX1_run 158 = .ok (.ixor, 1) := by decide +kernel
theorem dX1_run_159 : decode cX1_run 159 = .ok (.ireturn, 1) := by decide +kernel
theorem dX1_run_160 : decode cX1_run 160 = .ok (.aload_n 0, 1) := by decide +kernel
theorem dX1_run_161 : decode cX1_run 161 = .ok (.iconst 1, 1) := by decide +kernel
theorem dX1_run_162 : decode cX1_run 162 = .ok (.iconst 0, 1) := by decide +kernel
theorem dX1_run_163 : decode cX1_run 163 = .ok (.iload_n 2, 1) := by decide +kernel
theorem dX1_run_164 : decode cX1_run 164 = .ok (.iload_n 3, 1) := by decide +kernel
theorem dX1_run_165 : decode cX1_run 165 = .ok (.invokevirtual 60, 3) := by decide +kernel
theorem dX1_run_168 : decode cX1_run 168 = .ok (.iconst 3, 1) := by decide +kernel
theorem dX1_run_169 : decode cX1_run 169 = .ok (.iadd, 1) := by decide +kernel
theorem dX1_run_170 : decode cX1_run 170 = .ok (.ireturn, 1) := by decide +kernel
theorem dX1_run_171 : decode cX1_run 171 = .ok (.aload_n 0, 1) := by decide +kernel
theorem dX1_run_172 : decode cX1_run 172 = .ok (.iconst 2, 1) := by decide +kernel
theorem dX1_run_173 : decode cX1_run 173 = .ok (.iconst 1, 1) := by decide +kernel
theorem dX1_run_174 : decode cX1_run 174 = .ok (.iload_n 2, 1) := by decide +kernel
theorem dX1_run_175 : decode cX1_run 175 = .ok (.iload_n 3, 1) := by decide +kernel
theorem dX1_run_176 : decode cX1_run 176 = .ok (.invokevirtual 60, 3) := by decide +kernel
theorem dX1_run_179 : decode cX1_run 179 = .ok (.ineg, 1) := by decide +kernel
theorem dX1_run_180 : decode cX1_run 180 = .ok (.ireturn, 1) := by decide +kernel
theorem dX1_run_181 : decode cX1_run 181 = .ok (.aload_n 0, 1) := by decide +kernel
theorem dX1_run_182 : decode cX1_run 182 = .ok (.iconst 3, 1) := by decide +kernel
theorem dX1_run_183 : decode cX1_run 183 = .ok (.iconst 2, 1) := by decide +kernel
theorem dX1_run_184 : decode cX1_run 184 = .ok (.iload_n 2, 1) := by decide +kernel
theorem dX1_run_185 : decode cX1_run 185 = .ok (.iload_n 3, 1) := by decide +kernel
theorem dX1_run_186 : decode cX1_run 186 = .ok (.invokevirtual 60, 3) := by decide +kernel
theorem dX1_run_189 : decode cX1_run 189 = .ok (.iconst 3, 1) := by decide +kernel
theorem dX1_run_190 : decode cX1_run 190 = .ok (.imul, 1) := by decide +kernel
theorem dX1_run_191 : decode cX1_run 191 = .ok (.ireturn, 1) := by decide +kernel
theorem dX1_run_192 : decode cX1_run 192 = .ok (.aload_n 0, 1) := by decide +kernel
theorem dX1_run_193 : decode cX1_run 193 = .ok (.iconst 4, 1) := by decide +kernel
theorem dX1_run_194 : decode cX1_run 194 = .ok (.iconst 3, 1) := by decide +kernel
theorem dX1_run_195 : decode cX1_run 195 = .ok (.iload_n 2, 1) := by decide +kernel
theorem dX1_run_196 : decode cX1_run 196 = .ok (.iload_n 3, 1) := by decide +kernel
theorem dX1_run_197 : decode cX1_run 197 = .ok (.invokevirtual 60, 3) := by decide +kernel
theorem dX1_run_200 : decode cX1_run 200 = .ok (.iconst 5, 1) := by decide +kernel
theorem dX1_run_201 : decode cX1_run 201 = .ok (.ixor, 1) := by decide +kernel
theorem dX1_run_202 : decode cX1_run 202 = .ok (.ireturn, 1) := by decide +kernel
theorem dX1_run_203 : decode cX1_run 203 = .ok (.aload_n 0, 1) := by decide +kernel
theorem dX1_run_204 : decode cX1_run 204 = .ok (.iconst 5, 1) := by decide +kernel
theorem dX1_run_205 : decode cX1_run 205 = .ok (.iconst 0, 1) := by decide +kernel
theorem dX1_run_206 : decode cX1_run 206 = .ok (.iload_n 2, 1) := by decide +kernel
theorem dX1_run_207 : decode cX1_run 207 = .ok (.iconst 1, 1) := by decide +kernel
theorem dX1_run_208 : decode cX1_run 208 = .ok (.iadd, 1) := by decide +kernel
theorem dX1_run_209 : decode cX1_run 209 = .ok (.iload_n 3, 1) := by decide +kernel
theorem dX1_run_210 : decode cX1_run 210 = .ok (.invokevirtual 60, 3) := by decide +kernel
theorem dX1_run_213 : decode cX1_run 213 = .ok (.ireturn, 1) := by decide +kernel
theorem dX1_run_214 : decode cX1_run 214 = .ok (.aload_n 0, 1) := by decide +kernel
theorem dX1_run_215 : decode cX1_run 215 = .ok (.iconst 5, 1) := by decide +kernel
theorem dX1_run_216 : decode cX1_run 216 = .ok (.iconst 2, 1) := by decide +kernel
theorem dX1_run_217 : decode cX1_run 217 = .ok (.iload_n 2, 1) := by decide +kernel
theorem dX1_run_218 : decode cX1_run 218 = .ok (.iload_n 3, 1) := by decide +kernel
theorem dX1_run_219 : decode cX1_run 219 = .ok (.invokevirtual 60, 3) := by decide +kernel
theorem dX1_run_222 : decode cX1_run 222 = .ok (.aload_n 0, 1) := by decide +kernel
theorem dX1_run_223 : decode cX1_run 223 = .ok (.iconst 0, 1) := by decide +kernel
theorem dX1_run_224 : decode cX1_run 224 = .ok (.iconst 2, 1) := by decide +kernel
theorem dX1_run_225 : decode cX1_run 225 = .ok (.iload_n 3, 1) := by decide +kernel
theorem dX1_run_226 : decode cX1_run 226 = .ok (.invokevirtual 38, 3) := by decide +kernel
theorem dX1_run_229 : decode cX1_run 229 = .ok (.iadd, 1) := by decide +kernel
theorem dX1_run_230 : decode cX1_run 230 = .ok (.ireturn, 1) := by decide +kernel
theorem dX1_run_231 : decode cX1_run 231 = .ok (.aload_n 0, 1) := by decide +kernel
theorem dX1_run_232 : decode cX1_run 232 = .ok (.bipush 6, 2) := by decide +kernel
theorem dX1_run_234 : decode cX1_run 234 = .ok (.iconst 2, 1) := by decide +kernel
theorem dX1_run_235 : decode cX1_run 235 = .ok (.iload_n 2, 1) := by decide +kernel
theorem dX1_run_236 : decode cX1_run 236 = .ok (.iload_n 3, 1) := by decide +kernel
theorem dX1_run_237 : decode cX1_run 237 = .ok (.invokevirtual 60, 3) := by decide +kernel
theorem dX1_run_240 : decode cX1_run 240 = .ok (.iconst 1, 1) := by decide +kernel
theorem dX1_run_241 : decode cX1_run 241 = .ok (.isub, 1) := by decide +kernel
theorem dX1_run_242 : decode cX1_run 242 = .ok (.ireturn, 1) := by decide +kernel
theorem dX1_run_243 : decode cX1_run 243 = .ok (.aload_n 0, 1) := by decide +kernel
theorem dX1_run_244 : decode cX1_run 244 = .ok (.bipush 7, 2) := by decide +kernel
theorem dX1_run_246 : decode cX1_run 246 = .ok (.iconst 1, 1) := by decide +kernel
theorem dX1_run_247 : decode cX1_run 247 = .ok (.iload_n 2, 1) := by decide +kernel
theorem dX1_run_248 : decode cX1_run 248 = .ok (.iload_n 3, 1) := by decide +kernel
theorem dX1_run_249 : decode cX1_run 249 = .ok (.invokevirtual 60, 3) := by decide +kernel
theorem dX1_run_252 : decode cX1_run 252 = .ok (.iconst 2, 1) := by decide +kernel
theorem dX1_run_253 : decode cX1_run 253 = .ok (.imul, 1) := by decide +kernel
theorem dX1_run_254 : decode cX1_run 254 = .ok (.ireturn, 1) := by decide +kernel
theorem dX1_run_255 : decode cX1_run 255 = .ok (.aload_n 0, 1) := by decide +kernel
theorem dX1_run_256 : decode cX1_run 256 = .ok (.bipush 7, 2) := by decide +kernel
theorem dX1_run_258 : decode cX1_run 258 = .ok (.iconst 3, 1) := by decide +kernel
theorem dX1_run_259 : decode cX1_run 259 = .ok (.iload_n 2, 1) := by decide +kernel
theorem dX1_run_260 : decode cX1_run 260 = .ok (.iload_n 3, 1) := by decide +kernel
theorem dX1_run_261 : decode cX1_run 261 = .ok (.invokevirtual 60, 3) := by decide +kernel
theorem dX1_run_264 : decode cX1_run 264 = .ok (.aload_n 0, 1) := by decide +kernel
theorem dX1_run_265 : decode cX1_run 265 = .ok (.iconst 2, 1) := by decide +kernel
theorem dX1_run_266 : decode cX1_run 266 = .ok (.iconst 2, 1) := by decide +kernel
theorem dX1_run_267 : decode cX1_run 267 = .ok (.iload_n 3, 1) := by decide +kernel
theorem dX1_run_268 : decode cX1_run 268 = .ok (.invokevirtual 38, 3) := by decide +kernel
theorem dX1_run_271 : decode cX1_run 271 = .ok (.isub, 1) := by decide +kernel
theorem dX1_run_272 : decode cX1_run 272 = .ok (.ireturn, 1) := by decide +kernel
theorem dX1_run_273 : decode cX1_run 273 = .ok (.iconst 0, 1) := by decide +kernel
theorem dX1_run_274 : decode cX1_run 274 = .ok (.ireturn, 1) := by decide +kernel
theorem dX1_noteRun_0 : decode cX1_noteRun 0 = .ok (.aload_n 0, 1) := by decide +kernel
theorem dX1_noteRun_1 : decode cX1_noteRun 1 = .ok (.getfield 29, 3) := by decide +kernel
theorem dX1_noteRun_4 : decode cX1_noteRun 4 = .ok (.bipush 24, 2) := by decide +kernel
theorem dX1_noteRun_6 : decode cX1_noteRun 6 = .ok (.if_icmp .ge 13, 3) := by decide +kernel
theorem dX1_noteRun_9 : decode cX1_noteRun 9 = .ok (.aload_n 0, 1) := by decide +kernel
theorem dX1_noteRun_10 : decode cX1_noteRun 10 = .ok (.getfield 15, 3) := by decide +kernel
theorem dX1_noteRun_13 : decode cX1_noteRun 13 = .ok (.aload_n 0, 1) := by decide +kernel
theorem dX1_noteRun_14 : decode cX1_noteRun 14 = .ok (.getfield 29, 3) := by decide +kernel
theorem dX1_noteRun_17 : decode cX1_noteRun 17 = .ok (.iload_n 1, 1) := by decide +kernel
theorem dX1_noteRun_18 : decode cX1_noteRun 18 = .ok (.iastore, 1) := by decide +kernel
theorem dX1_noteRun_19 : decode cX1_noteRun 19 = .ok (.aload_n 0, 1) := by decide +kernel
theorem dX1_noteRun_20 : decode cX1_noteRun 20 = .ok (.dup, 1) := by decide +kernel
theorem dX1_noteRun_21 : decode cX1_noteRun 21 = .ok (.getfield 29, 3) := by decide +kernel
theorem dX1_noteRun_24 : decode cX1_noteRun 24 = .ok (.iconst 1, 1) := by decide +kernel
theorem dX1_noteRun_25 : decode cX1_noteRun 25 = .ok (.iadd, 1) := by decide +kernel
theorem dX1_noteRun_26 : decode cX1_noteRun 26 = .ok (.putfield 29, 3) := by decide +kernel
theorem dX1_noteRun_29 : decode cX1_noteRun 29 = .ok (.return_, 1) := by decide +kernel
theorem dX2_init_0 : decode cX2_init 0 = .ok (.aload_n 0, 1) := by decide +kernel
theorem dX2_init_1 : decode cX2_init 1 = .ok (.invokespecial 1, 3) := by decide +kernel
theorem dX2_init_4 : decode cX2_init 4 = .ok (.aload_n 0, 1) := by decide +kernel
theorem dX2_init_5 : decode cX2_init 5 = .ok (.bipush 40, 2) := by decide +kernel
theorem dX2_init_7 : decode cX2_init 7 = .ok (.newarray .int, 2) := by decide +kernel
theorem dX2_init_9 : decode cX2_init 9 = .ok (.putfield 9, 3) := by decide +kernel
theorem dX2_init_12 : decode cX2_init 12 = .ok (.aload_n 0, 1) := by decide +kernel
theorem dX2_init_13 : decode cX2_init 13 = .ok (.bipush 40, 2) := by decide +kernel
theorem dX2_init_15 : decode cX2_init 15 = .ok (.newarray .int, 2) := by decide +kernel
theorem dX2_init_17 : decode cX2_init 17 = .ok (.putfield 13, 3) := by decide +kernel
theorem dX2_init_20 : decode cX2_init 20 = .ok (.aload_n 0, 1) := by decide +kernel
theorem dX2_init_21 : decode cX2_init 21 = .ok (.bipush 40, 2) := by decide +kernel
theorem dX2_init_23 : decode cX2_init 23 = .ok (.newarray .int, 2) := by decide +kernel
theorem dX2_init_25 : decode cX2_init 25 = .ok (.putfield 16, 3) := by decide +kernel
theorem dX2_init_28 : decode cX2_init 28 = .ok (.aload_n 0, 1) := by decide +kernel
theorem dX2_init_29 : decode cX2_init 29 = .ok (.bipush 40, 2) := by decide +kernel
theorem dX2_init_31 : decode cX2_init 31 = .ok (.newarray .int, 2) := by decide +kernel
theorem dX2_init_33 : decode cX2_init 33 = .ok (.putfield 19, 3) := by decide +kernel
theorem dX2_init_36 : decode cX2_init 36 = .ok (.return_, 1) := by decide +kernel
theorem dX2_undoable_0 : decode cX2_undoable 0 = .ok (.aload_n 0, 1) := by decide +kernel
theorem dX2_undoable_1 : decode cX2_undoable 1 = .ok (.getfield 22, 3) := by decide +kernel
theorem dX2_undoable_4 : decode cX2_undoable 4 = .ok (.ireturn, 1) := by decide +kernel
theorem dX2_redoable_0 : decode cX2_redoable 0 = .ok (.aload_n 0, 1) := by decide +kernel
theorem dX2_redoable_1 : decode cX2_redoable 1 = .ok (.getfield 26, 3) := by decide +kernel
theorem dX2_redoable_4 : decode cX2_redoable 4 = .ok (.aload_n 0, 1) := by decide +kernel
theorem dX2_redoable_5 : decode cX2_redoable 5 = .ok (.getfield 22, 3) := by decide +kernel
theorem dX2_redoable_8 : decode cX2_redoable 8 = .ok (.isub, 1) := by decide +kernel
theorem dX2_redoable_9 : decode cX2_redoable 9 = .ok (.ireturn, 1) := by decide +kernel
theorem dX2_came_0 : decode cX2_came 0 = .ok (.aload_n 0, 1) := by decide +kernel
theorem dX2_came_1 : decode cX2_came 1 = .ok (.getfield 22, 3) := by decide +kernel
theorem dX2_came_4 : decode cX2_came 4 = .ok (.bipush 40, 2) := by decide +kernel
theorem dX2_came_6 : decode cX2_came 6 = .ok (.if_icmp .lt 7, 3) := by decide +kernel
theorem dX2_came_9 : decode cX2_came 9 = .ok (.aload_n 0, 1) := by decide +kernel
theorem dX2_came_10 : decode cX2_came 10 = .ok (.invokevirtual 29, 3) := by decide +kernel
theorem dX2_came_13 : decode cX2_came 13 = .ok (.aload_n 0, 1) := by decide +kernel
theorem dX2_came_14 : decode cX2_came 14 = .ok (.getfield 9, 3) := by decide +kernel
theorem dX2_came_17 : decode cX2_came 17 = .ok (.aload_n 0, 1) := by decide +kernel
theorem dX2_came_18 : decode cX2_came 18 = .ok (.getfield 22, 3) := by decide +kernel
theorem dX2_came_21 : decode cX2_came 21 = .ok (.iload_n 1, 1) := by decide +kernel
theorem dX2_came_22 : decode cX2_came 22 = .ok (.iastore, 1) := by decide +kernel
theorem dX2_came_23 : decode cX2_came 23 = .ok (.aload_n 0, 1) := by decide +kernel
theorem dX2_came_24 : decode cX2_came 24 = .ok (.getfield 13, 3) := by decide +kernel
theorem dX2_came_27 : decode cX2_came 27 = .ok (.aload_n 0, 1) := by decide +kernel
theorem dX2_came_28 : decode cX2_came 28 = .ok (.getfield 22, 3) := by decide +kernel
theorem dX2_came_31 : decode cX2_came 31 = .ok (.iload_n 2, 1) := by decide +kernel
theorem dX2_came_32 : decode cX2_came 32 = .ok (.iastore, 1) := by decide +kernel
theorem dX2_came_33 : decode cX2_came 33 = .ok (.aload_n 0, 1) := by decide +kernel
theorem dX2_came_34 : decode cX2_came 34 = .ok (.getfield 16, 3) := by decide +kernel
theorem dX2_came_37 : decode cX2_came 37 = .ok (.aload_n 0, 1) := by decide +kernel
theorem dX2_came_38 : decode cX2_came 38 = .ok (.getfield 22, 3) := by decide +kernel
theorem dX2_came_41 : decode cX2_came 41 = .ok (.iload_n 3, 1) := by decide +kernel
theorem dX2_came_42 : decode cX2_came 42 = .ok (.iastore, 1) := by decide +kernel
theorem dX2_came_43 : decode cX2_came 43 = .ok (.aload_n 0, 1) := by decide +kernel
theorem dX2_came_44 : decode cX2_came 44 = .ok (.getfield 19, 3) := by decide +kernel
theorem dX2_came_47 : decode cX2_came 47 = .ok (.aload_n 0, 1) := by decide +kernel
theorem dX2_came_48 : decode cX2_came 48 = .ok (.getfield 22, 3) := by decide +kernel
theorem dX2_came_51 : decode cX2_came 51 = .ok (.iload 4, 2) := by decide +kernel
theorem dX2_came_53 : decode cX2_came 53 = .ok (.iastore, 1) := by decide +kernel
theorem dX2_came_54 : decode cX2_came 54 = .ok (.aload_n 0, 1) := by decide +kernel
theorem dX2_came_55 : decode cX2_came 55 = .ok (.dup, 1) := by decide +kernel
theorem dX2_came_56 : decode cX2_came 56 = .ok (.getfield 22, 3) := by decide +kernel
theorem dX2_came_59 : decode cX2_came 59 = .ok (.iconst 1, 1) := by decide +kernel
theorem dX2_came_60 : decode cX2_came 60 = .ok (.iadd, 1) := by decide +kernel
theorem dX2_came_61 : decode cX2_came 61 = .ok (.putfield 22, 3) := by decide +kernel
theorem dX2_came_64 : decode cX2_came 64 = .ok (.aload_n 0, 1) := by decide +kernel
theorem dX2_came_65 : decode cX2_came 65 = .ok (.aload_n 0, 1) := by decide +kernel
theorem dX2_came_66 : decode cX2_came 66 = .ok (.getfield 22, 3) := by decide +kernel
theorem dX2_came_69 : decode cX2_came 69 = .ok (.putfield 26, 3) := by decide +kernel
theorem dX2_came_72 : decode cX2_came 72 = .ok (.return_, 1) := by decide +kernel
theorem dX2_forgetOldest_0 : decode cX2_forgetOldest 0 = .ok (.aload_n 0, 1) := by decide +kernel
theorem dX2_forgetOldest_1 : decode cX2_forgetOldest 1 = .ok (.bipush 39, 2) := by decide +kernel
theorem dX2_forgetOldest_3 : decode cX2_forgetOldest 3 = .ok (.putfield 22, 3) := by decide +kernel
theorem dX2_forgetOldest_6 : decode cX2_forgetOldest 6 = .ok (.aload_n 0, 1) := by decide +kernel
theorem dX2_forgetOldest_7 : decode cX2_forgetOldest 7 = .ok (.getfield 9, 3) := by decide +kernel
theorem dX2_forgetOldest_10 : decode cX2_forgetOldest 10 = .ok (.iconst 1, 1) := by decide +kernel
theorem dX2_forgetOldest_11 : decode cX2_forgetOldest 11 = .ok (.aload_n 0, 1) := by decide +kernel
theorem dX2_forgetOldest_12 : decode cX2_forgetOldest 12 = .ok (.getfield 9, 3) := by decide +kernel
theorem dX2_forgetOldest_15 : decode cX2_forgetOldest 15 = .ok (.iconst 0, 1) := by decide +kernel
theorem dX2_forgetOldest_16 : decode cX2_forgetOldest 16 = .ok (.aload_n 0, 1) := by decide +kernel
theorem dX2_forgetOldest_17 : decode cX2_forgetOldest 17 = .ok (.getfield 22, 3) := by decide +kernel
theorem dX2_forgetOldest_20 : decode cX2_forgetOldest 20 = .ok (.invokestatic 32, 3) := by decide +kernel
theorem dX2_forgetOldest_23 : decode cX2_forgetOldest 23 = .ok (.aload_n 0, 1) := by decide +kernel
theorem dX2_forgetOldest_24 : decode cX2_forgetOldest 24 = .ok (.getfield 13, 3) := by decide +kernel
theorem dX2_forgetOldest_27 : decode cX2_forgetOldest 27 = .ok (.iconst 1, 1) := by decide +kernel
theorem dX2_forgetOldest_28 : decode cX2_forgetOldest 28 = .ok (.aload_n 0, 1) := by decide +kernel
theorem dX2_forgetOldest_29 : decode cX2_forgetOldest 29 = .ok (.getfield 13, 3) := by decide +kernel
theorem dX2_forgetOldest_32 : decode cX2_forgetOldest 32 = .ok (.iconst 0, 1) := by decide +kernel
theorem dX2_forgetOldest_33 : decode cX2_forgetOldest 33 = .ok (.aload_n 0, 1) := by decide +kernel
theorem dX2_forgetOldest_34 : decode cX2_forgetOldest 34 = .ok (.getfield 22, 3) := by decide +kernel
theorem dX2_forgetOldest_37 : decode cX2_forgetOldest 37 = .ok (.invokestatic 32, 3) := by decide +kernel
theorem dX2_forgetOldest_40 : decode cX2_forgetOldest 40 = .ok (.aload_n 0, 1) := by decide +kernel
theorem dX2_forgetOldest_41 : decode cX2_forgetOldest 41 = .ok (.getfield 16, 3) := by decide +kernel
theorem dX2_forgetOldest_44 : decode cX2_forgetOldest 44 = .ok (.iconst 1, 1) := by decide +kernel
theorem dX2_forgetOldest_45 : decode cX2_forgetOldest 45 = .ok (.aload_n 0, 1) := by decide +kernel
theorem dX2_forgetOldest_46 : decode cX2_forgetOldest 46 = .ok (.getfield 16, 3) := by decide +kernel
theorem dX2_forgetOldest_49 : decode cX2_forgetOldest 49 = .ok (.iconst 0, 1) := by decide +kernel
theorem dX2_forgetOldest_50 : decode cX2_forgetOldest 50 = .ok (.aload_n 0, 1) := by decide +kernel
theorem dX2_forgetOldest_51 : decode cX2_forgetOldest 51 = .ok (.getfield 22, 3) := by decide +kernel
theorem dX2_forgetOldest_54 : decode cX2_forgetOldest 54 = .ok (.invokestatic 32, 3) := by decide +kernel
theorem dX2_forgetOldest_57 : decode cX2_forgetOldest 57 = .ok (.aload_n 0, 1) := by decide +kernel
theorem dX2_forgetOldest_58 : decode cX2_forgetOldest 58 = .ok (.getfield 19, 3) := by decide +kernel
theorem dX2_forgetOldest_61 : decode cX2_forgetOldest 61 = .ok (.iconst 1, 1) := by decide +kernel
theorem dX2_forgetOldest_62 : decode cX2_forgetOldest 62 = .ok (.aload_n 0, 1) := by decide +kernel
theorem dX2_forgetOldest_63 : decode cX2_forgetOldest 63 = .ok (.getfield 19, 3) := by decide +kernel
theorem dX2_forgetOldest_66 : decode cX2_forgetOldest 66 = .ok (.iconst 0, 1) := by decide +kernel
theorem dX2_forgetOldest_67 : decode cX2_forgetOldest 67 = .ok (.aload_n 0, 1) := by decide +kernel
theorem dX2_forgetOldest_68 : decode cX2_forgetOldest 68 = .ok (.getfield 22, 3) := by decide +kernel
theorem dX2_forgetOldest_71 : decode cX2_forgetOldest 71 = .ok (.invokestatic 32, 3) := by decide +kernel
theorem dX2_forgetOldest_74 : decode cX2_forgetOldest 74 = .ok (.return_, 1) := by decide +kernel
theorem dX2_stepBack_0 : decode cX2_stepBack 0 = .ok (.aload_n 0, 1) := by decide +kernel
theorem dX2_stepBack_1 : decode cX2_stepBack 1 = .ok (.getfield 22, 3) := by decide +kernel
theorem dX2_stepBack_4 : decode cX2_stepBack 4 = .ok (.ifCond .le 31, 3) := by decide +kernel
theorem dX2_stepBack_7 : decode cX2_stepBack 7 = .ok (.aload_n 0, 1) := by decide +kernel
theorem dX2_stepBack_8 : decode cX2_stepBack 8 = .ok (.dup, 1) := by decide +kernel
theorem dX2_stepBack_9 : decode cX2_stepBack 9 = .ok (.getfield 22, 3) := by decide +kernel
theorem dX2_stepBack_12 : decode cX2_stepBack 12 = .ok (.iconst 1, 1) := by decide +kernel
theorem dX2_stepBack_13 : decode cX2_stepBack 13 = .ok (.isub, 1) := by decide +kernel
theorem dX2_stepBack_14 : decode cX2_stepBack 14 = .ok (.putfield 22, 3) := by decide +kernel
theorem dX2_stepBack_17 : decode cX2_stepBack 17 = .ok (.aload_n 0, 1) := by decide +kernel
theorem dX2_stepBack_18 : decode cX2_stepBack 18 = .ok (.aload_n 1, 1) := by decide +kernel
theorem dX2_stepBack_19 : decode cX2_stepBack 19 = .ok (.aload_n 0, 1) := by decide +kernel
theorem dX2_stepBack_20 : decode cX2_stepBack 20 = .ok (.getfield 22, 3) := by decide +kernel
theorem dX2_stepBack_23 : decode cX2_stepBack 23 = .ok (.aload_n 0, 1) := by decide +kernel
theorem dX2_stepBack_24 : decode cX2_stepBack 24 = .ok (.getfield 16, 3) := by decide +kernel
theorem dX2_stepBack_27 : decode cX2_stepBack 27 = .ok (.aload_n 0, 1) := by decide +kernel
theorem dX2_stepBack_28 : decode cX2_stepBack 28 = .ok (.getfield 22, 3) := by decide +kernel
theorem dX2_stepBack_31 : decode cX2_stepBack 31 = .ok (.iaload, 1) := by decide +kernel
theorem dX2_stepBack_32 : decode cX2_stepBack 32 = .ok (.invokevirtual 38, 3) := by decide +kernel
theorem dX2_stepBack_35 : decode cX2_stepBack 35 = .ok (.return_, 1) := by decide +kernel
theorem dX2_stepOn_0 : decode cX2_stepOn 0 = .ok (.aload_n 0, 1) := by decide +kernel
theorem dX2_stepOn_1 : decode cX2_stepOn 1 = .ok (.getfield 22, 3) := by decide +kernel
theorem dX2_stepOn_4 : decode cX2_stepOn 4 = .ok (.aload_n 0, 1) := by decide +kernel
theorem dX2_stepOn_5 : decode cX2_stepOn 5 = .ok (.getfield 26, 3) := by decide +kernel
theorem dX2_stepOn_8 : decode cX2_stepOn 8 = .ok (.if_icmp .ge 31, 3) := by decide +kernel
theorem dX2_stepOn_11 : decode cX2_stepOn 11 = .ok (.aload_n 0, 1) := by decide +kernel
theorem dX2_stepOn_12 : decode cX2_stepOn 12 = .ok (.aload_n 1, 1) := by decide +kernel
theorem dX2_stepOn_13 : decode cX2_stepOn 13 = .ok (.aload_n 0, 1) := by decide +kernel
theorem dX2_stepOn_14 : decode cX2_stepOn 14 = .ok (.getfield 22, 3) := by decide +kernel
theorem dX2_stepOn_17 : decode cX2_stepOn 17 = .ok (.aload_n 0, 1) := by decide +kernel
theorem dX2_stepOn_18 : decode cX2_stepOn 18 = .ok (.getfield 19, 3) := by decide +kernel
theorem dX2_stepOn_21 : decode cX2_stepOn 21 = .ok (.aload_n 0, 1) := by decide +kernel
theorem dX2_stepOn_22 : decode cX2_stepOn 22 = .ok (.getfield 22, 3) := by decide +kernel
theorem dX2_stepOn_25 : decode cX2_stepOn 25 = .ok (.iaload, 1) := by decide +kernel
theorem dX2_stepOn_26 : decode cX2_stepOn 26 = .ok (.invokevirtual 38, 3) := by decide +kernel
theorem dX2_stepOn_29 : decode cX2_stepOn 29 = .ok (.aload_n 0, 1) := by decide +kernel
theorem dX2_stepOn_30 : decode cX2_stepOn 30 = .ok (.dup, 1) := by decide +kernel
theorem dX2_stepOn_31 : decode cX2_stepOn 31 = .ok (.getfield 22, 3) := by decide +kernel
theorem dX2_stepOn_34 : decode cX2_stepOn 34 = .ok (.iconst 1, 1) := by decide +kernel
theorem dX2_stepOn_35 : decode cX2_stepOn 35 = .ok (.iadd, 1) := by decide +kernel
theorem dX2_stepOn_36 : decode cX2_stepOn 36 = .ok (.putfield 22, 3) := by decide +kernel
theorem dX2_stepOn_39 : decode cX2_stepOn 39 = .ok (.return_, 1) := by decide +kernel
theorem dX2_apply_0 : decode cX2_apply 0 = .ok (.aload_n 0, 1) := by decide +kernel
theorem dX2_apply_1 : decode cX2_apply 1 = .ok (.getfield 9, 3) := by decide +kernel
theorem dX2_apply_4 : decode cX2_apply 4 = .ok (.iload_n 2, 1) := by decide +kernel
theorem dX2_apply_5 : decode cX2_apply 5 = .ok (.iaload, 1) := by decide +kernel
theorem dX2_apply_6 : decode cX2_apply 6 = .ok (.ifCond .lt 32, 3) := by decide +kernel
theorem dX2_apply_9 : decode cX2_apply 9 = .ok (.aload_n 0, 1) := by decide +kernel
theorem dX2_apply_10 : decode cX2_apply 10 = .ok (.getfield 9, 3) := by decide +kernel
theorem dX2_apply_13 : decode cX2_apply 13 = .ok (.iload_n 2, 1) := by decide +kernel
theorem dX2_apply_14 : decode cX2_apply 14 = .ok (.iaload, 1) := by decide +kernel
theorem dX2_apply_15 : decode cX2_apply 15 = .ok (.aload_n 1, 1) := by decide +kernel
theorem dX2_apply_16 : decode cX2_apply 16 = .ok (.arraylength, 1) := by decide +kernel
theorem dX2_apply_17 : decode cX2_apply 17 = .ok (.if_icmp .ge 21, 3) := by decide +kernel
theorem dX2_apply_20 : decode cX2_apply 20 = .ok (.aload_n 1, 1) := by decide +kernel
theorem dX2_apply_21 : decode cX2_apply 21 = .ok (.aload_n 0, 1) := by decide +kernel
theorem dX2_apply_22 : decode cX2_apply 22 = .ok (.getfield 9, 3) := by decide +kernel
theorem dX2_apply_25 : decode cX2_apply 25 = .ok (.iload_n 2, 1) := by decide +kernel
theorem dX2_apply_26 : decode cX2_apply 26 = .ok (.iaload, 1) := by decide +kernel
theorem dX2_apply_27 : decode cX2_apply 27 = .ok (.aaload, 1) := by decide +kernel
theorem dX2_apply_28 : decode cX2_apply 28 = .ok (.aload_n 0, 1) := by decide +kernel
theorem dX2_apply_29 : decode cX2_apply 29 = .ok (.getfield 13, 3) := by decide +kernel
theorem dX2_apply_32 : decode cX2_apply 32 = .ok (.iload_n 2, 1) := by decide +kernel
theorem dX2_apply_33 : decode cX2_apply 33 = .ok (.iaload, 1) := by decide +kernel
theorem dX2_apply_34 : decode cX2_apply 34 = .ok (.iload_n 3, 1) := by decide +kernel
theorem dX2_apply_35 : decode cX2_apply 35 = .ok (.invokevirtual 42, 3) := by decide +kernel
theorem dX2_apply_38 : decode cX2_apply 38 = .ok (.return_, 1) := by decide +kernel
theorem dX3_init_0 : decode cX3_init 0 = .ok (.aload_n 0, 1) := by decide +kernel
theorem dX3_init_1 : decode cX3_init 1 = .ok (.invokespecial 3, 3) := by decide +kernel
theorem dX3_init_4 : decode cX3_init 4 = .ok (.aload_n 0, 1) := by decide +kernel
theorem dX3_init_5 : decode cX3_init 5 = .ok (.sipush 128, 3) := by decide +kernel
theorem dX3_init_8 : decode cX3_init 8 = .ok (.newarray .int, 2) := by decide +kernel
theorem dX3_init_10 : decode cX3_init 10 = .ok (.putfield 11, 3) := by decide +kernel
theorem dX3_init_13 : decode cX3_init 13 = .ok (.aload_n 0, 1) := by decide +kernel
theorem dX3_init_14 : decode cX3_init 14 = .ok (.sipush 128, 3) := by decide +kernel
theorem dX3_init_17 : decode cX3_init 17 = .ok (.newarray .int, 2) := by decide +kernel
theorem dX3_init_19 : decode cX3_init 19 = .ok (.putfield 15, 3) := by decide +kernel
theorem dX3_init_22 : decode cX3_init 22 = .ok (.aload_n 0, 1) := by decide +kernel
theorem dX3_init_23 : decode cX3_init 23 = .ok (.sipush 128, 3) := by decide +kernel
theorem dX3_init_26 : decode cX3_init 26 = .ok (.newarray .int, 2) := by decide +kernel
theorem dX3_init_28 : decode cX3_init 28 = .ok (.putfield 18, 3) := by decide +kernel
theorem dX3_init_31 : decode cX3_init 31 = .ok (.aload_n 0, 1) := by decide +kernel
theorem dX3_init_32 : decode cX3_init 32 = .ok (.new 21, 3) := by decide +kernel
theorem dX3_init_35 : decode cX3_init 35 = .ok (.dup, 1) := by decide +kernel
theorem dX3_init_36 : decode cX3_init 36 = .ok (.invokespecial 23, 3) := by decide +kernel
theorem dX3_init_39 : decode cX3_init 39 = .ok (.putfield 24, 3) := by decide +kernel
theorem dX3_init_42 : decode cX3_init 42 = .ok (.return_, 1) := by decide +kernel
theorem dX3_read_0 : decode cX3_read 0 = .ok (.aload_n 0, 1) := by decide +kernel
theorem dX3_read_1 : decode cX3_read 1 = .ok (.getfield 24, 3) := by decide +kernel
theorem dX3_read_4 : decode cX3_read 4 = .ok (.aload_n 1, 1) := by decide +kernel
theorem dX3_read_5 : decode cX3_read 5 = .ok (.invokevirtual 28, 3) := by decide +kernel
theorem dX3_read_8 : decode cX3_read 8 = .ok (.aload_n 0, 1) := by decide +kernel
theorem dX3_read_9 : decode cX3_read 9 = .ok (.iconst 0, 1) := by decide +kernel
theorem dX3_read_10 : decode cX3_read 10 = .ok (.putfield 32, 3) := by decide +kernel
theorem dX3_read_13 : decode cX3_read 13 = .ok (.aload_n 0, 1) := by decide +kernel
theorem dX3_read_14 : decode cX3_read 14 = .ok (.iconst 0, 1) := by decide +kernel
theorem dX3_read_15 : decode cX3_read 15 = .ok (.putfield 36, 3) := by decide +kernel
theorem dX3_read_18 : decode cX3_read 18 = .ok (.aload_n 0, 1) := by decide +kernel
theorem dX3_read_19 : decode cX3_read 19 = .ok (.invokevirtual 39, 3) := by decide +kernel
theorem dX3_read_22 : decode cX3_read 22 = .ok (.ifCond .ne 8, 3) := by decide +kernel
theorem dX3_read_25 : decode cX3_read 25 = .ok (.aload_n 0, 1) := by decide +kernel
theorem dX3_read_26 : decode cX3_read 26 = .ok (.getfield 32, 3) := by decide +kernel
theorem dX3_read_29 : decode cX3_read 29 = .ok (.ireturn, 1) := by decide +kernel
theorem dX3_read_30 : decode cX3_read 30 = .ok (.aload_n 0, 1) := by decide +kernel
theorem dX3_read_31 : decode cX3_read 31 = .ok (.getfield 15, 3) := by decide +kernel
theorem dX3_read_34 : decode cX3_read 34 = .ok (.iconst 0, 1) := by decide +kernel
theorem dX3_read_35 : decode cX3_read 35 = .ok (.aload_n 0, 1) := by decide +kernel
theorem dX3_read_36 : decode cX3_read 36 = .ok (.getfield 11, 3) := by decide +kernel
theorem dX3_read_39 : decode cX3_read 39 = .ok (.iconst 0, 1) := by decide +kernel
theorem dX3_read_40 : decode cX3_read 40 = .ok (.aload_n 0, 1) := by decide +kernel
theorem dX3_read_41 : decode cX3_read 41 = .ok (.getfield 36, 3) := by decide +kernel
theorem dX3_read_44 : decode cX3_read 44 = .ok (.invokestatic 43, 3) := by decide +kernel
theorem dX3_read_47 : decode cX3_read 47 = .ok (.aload_n 0, 1) := by decide +kernel
theorem dX3_read_48 : decode cX3_read 48 = .ok (.aload_n 0, 1) := by decide +kernel
theorem dX3_read_49 : decode cX3_read 49 = .ok (.getfield 36, 3) := by decide +kernel
theorem dX3_read_52 : decode cX3_read 52 = .ok (.putfield 49, 3) := by decide +kernel
theorem dX3_read_55 : decode cX3_read 55 = .ok (.iconst (-1), 1) := by decide +kernel
theorem dX3_read_56 : decode cX3_read 56 = .ok (.ireturn, 1) := by decide +kernel
theorem dX3_readLines_0 : decode cX3_readLines 0 = .ok (.iconst 0, 1) := by decide +kernel
theorem dX3_readLines_1 : decode cX3_readLines 1 = .ok (.istore_n 1, 1) := by decide +kernel
theorem dX3_readLines_2 : decode cX3_readLines 2 = .ok (.iload_n 1, 1) := by decide +kernel
theorem dX3_readLines_3 : decode cX3_readLines 3 = .ok (.aload_n 0, 1) := by decide +kernel
theorem dX3_readLines_4 : decode cX3_readLines 4 = .ok (.getfield 24, 3) := by decide +kernel
theorem dX3_readLines_7 : decode cX3_readLines 7 = .ok (.invokevirtual 52, 3) := by decide +kernel
theorem dX3_readLines_10 : decode cX3_readLines 10 = .ok (.if_icmp .gt 47, 3) := by decide +kernel
theorem dX3_readLines_13 : decode cX3_readLines 13 = .ok (.aload_n 0, 1) := by decide +kernel
theorem dX3_readLines_14 : decode cX3_readLines 14 = .ok (.invokevirtual 56, 3) := by decide +kernel
theorem dX3_readLines_17 : decode cX3_readLines 17 = .ok (.ifCond .ne 5, 3) := by decide +kernel
theorem dX3_readLines_20 : decode cX3_readLines 20 = .ok (.iconst 0, 1) := by decide +kernel
theorem dX3_readLines_21 : decode cX3_readLines 21 = .ok (.ireturn, 1) := by decide +kernel
theorem dX3_readLines_22 : decode cX3_readLines 22 = .ok (.aload_n 0, 1) := by decide +kernel
theorem dX3_readLines_23 : decode cX3_readLines 23 = .ok (.bipush 59, 2) := by decide +kernel
theorem dX3_readLines_25 : decode cX3_readLines 25 = .ok (.invokevirtual 59, 3) := by decide +kernel
theorem dX3_readLines_28 : decode cX3_readLines 28 = .ok (.ifCond .ne 23, 3) := by decide +kernel
theorem dX3_readLines_31 : decode cX3_readLines 31 = .ok (.aload_n 0, 1) := by decide +kernel
theorem dX3_readLines_32 : decode cX3_readLines 32 = .ok (.getfield 32, 3) := by decide +kernel
theorem dX3_readLines_35 : decode cX3_readLines 35 = .ok (.aload_n 0, 1) := by decide +kernel
theorem dX3_readLines_36 : decode cX3_readLines 36 = .ok (.getfield 24, 3) := by decide +kernel
theorem dX3_readLines_39 : decode cX3_readLines 39 = .ok (.invokevirtual 52, 3) := by decide +kernel
theorem dX3_readLines_42 : decode cX3_readLines 42 = .ok (.if_icmp .ne 7, 3) := by decide +kernel
theorem dX3_readLines_45 : decode cX3_readLines 45 = .ok (.iconst 1, 1) := by decide +kernel
theorem dX3_readLines_46 : decode cX3_readLines 46 = .ok (.goto 4, 3) := by decide +kernel
theorem dX3_readLines_49 : decode cX3_readLines 49 = .ok (.iconst 0, 1) := by decide +kernel
theorem dX3_readLines_50 : decode cX3_readLines 50 = .ok (.ireturn, 1) := by decide +kernel
theorem dX3_readLines_51 : decode cX3_readLines 51 = .ok (.iinc 1 1, 3) := by decide +kernel
theorem dX3_readLines_54 : decode cX3_readLines 54 = .ok (.goto (-52), 3) := by decide +kernel
theorem dX3_readLines_57 : decode cX3_readLines 57 = .ok (.iconst 0, 1) := by decide +kernel
theorem dX3_readLines_58 : decode cX3_readLines 58 = .ok (.ireturn, 1) := by decide +kernel
theorem dX3_readLine_0 : decode cX3_readLine 0 = .ok (.aload_n 0, 1) := by decide +kernel
theorem dX3_readLine_1 : decode cX3_readLine 1 = .ok (.iconst 0, 1) := by decide +kernel
theorem dX3_readLine_2 : decode cX3_readLine 2 = .ok (.invokevirtual 63, 3) := by decide +kernel
theorem dX3_readLine_5 : decode cX3_readLine 5 = .ok (.ifCond .ne 5, 3) := by decide +kernel
theorem dX3_readLine_8 : decode cX3_readLine 8 = .ok (.iconst 0, 1) := by decide +kernel
theorem dX3_readLine_9 : decode cX3_readLine 9 = .ok (.ireturn, 1) := by decide +kernel
theorem dX3_readLine_10 : decode cX3_readLine 10 = .ok (.aload_n 0, 1) := by decide +kernel
theorem dX3_readLine_11 : decode cX3_readLine 11 = .ok (.bipush 63, 2) := by decide +kernel
theorem dX3_readLine_13 : decode cX3_readLine 13 = .ok (.invokevirtual 59, 3) := by decide +kernel
theorem dX3_readLine_16 : decode cX3_readLine 16 = .ok (.ifCond .eq 19, 3) := by decide +kernel
theorem dX3_readLine_19 : decode cX3_readLine 19 = .ok (.aload_n 0, 1) := by decide +kernel
theorem dX3_readLine_20 : decode cX3_readLine 20 = .ok (.bipush 63, 2) := by decide +kernel
theorem dX3_readLine_22 : decode cX3_readLine 22 = .ok (.invokevirtual 66, 3) := by decide +kernel
theorem dX3_readLine_25 : decode cX3_readLine 25 = .ok (.aload_n 0, 1) := by decide +kernel
theorem dX3_readLine_26 : decode cX3_readLine 26 = .ok (.iconst 0, 1) := by decide +kernel
theorem dX3_readLine_27 : decode cX3_readLine 27 = .ok (.invokevirtual 63, 3) := by decide +kernel
theorem dX3_readLine_30 : decode cX3_readLine 30 = .ok (.ifCond .ne 5, 3) := by decide +kernel
theorem dX3_readLine_33 : decode cX3_readLine 33 = .ok (.iconst 0, 1) := by decide +kernel
theorem dX3_readLine_34 : decode cX3_readLine 34 = .ok (.ireturn, 1) := by decide +kernel
theorem dX3_readLine_35 : decode cX3_readLine 35 = .ok (.aload_n 0, 1) := by decide +kernel
theorem dX3_readLine_36 : decode cX3_readLine 36 = .ok (.bipush 59, 2) := by decide +kernel
theorem dX3_readLine_38 : decode cX3_readLine 38 = .ok (.invokevirtual 66, 3) := by decide +kernel
theorem dX3_readLine_41 : decode cX3_readLine 41 = .ok (.iconst 1, 1) := by decide +kernel
theorem dX3_readLine_42 : decode cX3_readLine 42 = .ok (.ireturn, 1) := by decide +kernel
theorem dX3_readAny_0 : decode cX3_readAny 0 = .ok (.aload_n 0, 1) := by decide +kernel
theorem dX3_readAny_1 : decode cX3_readAny 1 = .ok (.iload_n 1, 1) := by decide +kernel
theorem dX3_readAny_2 : decode cX3_readAny 2 = .ok (.invokevirtual 70, 3) := by decide +kernel
theorem dX3_readAny_5 : decode cX3_readAny 5 = .ok (.ifCond .ne 5, 3) := by decide +kernel
theorem dX3_readAny_8 : decode cX3_readAny 8 = .ok (.iconst 0, 1) := by decide +kernel
theorem dX3_readAny_9 : decode cX3_readAny 9 = .ok (.ireturn, 1) := by decide +kernel
theorem dX3_readAny_10 : decode cX3_readAny 10 = .ok (.iconst 0, 1) := by decide +kernel
theorem dX3_readAny_11 : decode cX3_readAny 11 = .ok (.istore_n 2, 1) := by decide +kernel
theorem dX3_readAny_12 : decode cX3_readAny 12 = .ok (.iload_n 2, 1) := by decide +kernel
theorem dX3_readAny_13 : decode cX3_readAny 13 = .ok (.aload_n 0, 1) := by decide +kernel
theorem dX3_readAny_14 : decode cX3_readAny 14 = .ok (.getfield 24, 3) := by decide +kernel
theorem dX3_readAny_17 : decode cX3_readAny 17 = .ok (.invokevirtual 52, 3) := by decide +kernel
theorem dX3_readAny_20 : decode cX3_readAny 20 = .ok (.if_icmp .ge 34, 3) := by decide +kernel
theorem dX3_readAny_23 : decode cX3_readAny 23 = .ok (.aload_n 0, 1) := by decide +kernel
theorem dX3_readAny_24 : decode cX3_readAny 24 = .ok (.bipush 124, 2) := by decide +kernel
theorem dX3_readAny_26 : decode cX3_readAny 26 = .ok (.invokevirtual 59, 3) := by decide +kernel
theorem dX3_readAny_29 : decode cX3_readAny 29 = .ok (.ifCond .eq 25, 3) := by decide +kernel
theorem dX3_readAny_32 : decode cX3_readAny 32 = .ok (.aload_n 0, 1) := by decide +kernel
theorem dX3_readAny_33 : decode cX3_readAny 33 = .ok (.iload_n 1, 1) := by decide +kernel
theorem dX3_readAny_34 : decode cX3_readAny 34 = .ok (.invokevirtual 70, 3) := by decide +kernel
theorem dX3_readAny_37 : decode cX3_readAny 37 = .ok (.ifCond .ne 5, 3) := by decide +kernel
theorem dX3_readAny_40 : decode cX3_readAny 40 = .ok (.iconst 0, 1) := by decide +kernel
theorem dX3_readAny_41 : decode cX3_readAny 41 = .ok (.ireturn, 1) := by decide +kernel
theorem dX3_readAny_42 : decode cX3_readAny 42 = .ok (.aload_n 0, 1) := by decide +kernel
theorem dX3_readAny_43 : decode cX3_readAny 43 = .ok (.bipush 124, 2) := by decide +kernel
theorem dX3_readAny_45 : decode cX3_readAny 45 = .ok (.invokevirtual 66, 3) := by decide +kernel
theorem dX3_readAny_48 : decode cX3_readAny 48 = .ok (.iinc 2 1, 3) := by decide +kernel
theorem dX3_readAny_51 : decode cX3_readAny 51 = .ok (.goto (-39), 3) := by decide +kernel
theorem dX3_readAny_54 : decode cX3_readAny 54 = .ok (.iconst 1, 1) := by decide +kernel
theorem dX3_readAny_55 : decode cX3_readAny 55 = .ok (.ireturn, 1) := by decide +kernel
theorem dX3_readAll_0 : decode cX3_readAll 0 = .ok (.aload_n 0, 1) := by decide +kernel
theorem dX3_readAll_1 : decode cX3_readAll 1 = .ok (.iload_n 1, 1) := by decide +kernel
theorem dX3_readAll_2 : decode cX3_readAll 2 = .ok (.invokevirtual 73, 3) := by decide +kernel
theorem dX3_readAll_5 : decode cX3_readAll 5 = .ok (.ifCond .ne 5, 3) := by decide +kernel
theorem dX3_readAll_8 : decode cX3_readAll 8 = .ok (.iconst 0, 1) := by decide +kernel
theorem dX3_readAll_9 : decode cX3_readAll 9 = .ok (.ireturn, 1) := by decide +kernel
theorem dX3_readAll_10 : decode cX3_readAll 10 = .ok (.iconst 0, 1) := by decide +kernel
theorem dX3_readAll_11 : decode cX3_readAll 11 = .ok (.istore_n 2, 1) := by decide +kernel
theorem dX3_readAll_12 : decode cX3_readAll 12 = .ok (.iload_n 2, 1) := by decide +kernel
theorem dX3_readAll_13 : decode cX3_readAll 13 = .ok (.aload_n 0, 1) := by decide +kernel
theorem dX3_readAll_14 : decode cX3_readAll 14 = .ok (.getfield 24, 3) := by decide +kernel
theorem dX3_readAll_17 : decode cX3_readAll 17 = .ok (.invokevirtual 52, 3) := by decide +kernel
theorem dX3_readAll_20 : decode cX3_readAll 20 = .ok (.if_icmp .ge 34, 3) := by decide +kernel
theorem dX3_readAll_23 : decode cX3_readAll 23 = .ok (.aload_n 0, 1) := by decide +kernel
theorem dX3_readAll_24 : decode cX3_readAll 24 = .ok (.bipush 38, 2) := by decide +kernel
theorem dX3_readAll_26 : decode cX3_readAll 26 = .ok (.invokevirtual 59, 3) := by decide +kernel
theorem dX3_readAll_29 : decode cX3_readAll 29 = .ok (.ifCond .eq 25, 3) := by decide +kernel
theorem dX3_readAll_32 : decode cX3_readAll 32 = .ok (.aload_n 0, 1) := by decide +kernel
theorem dX3_readAll_33 : decode cX3_readAll 33 = .ok (.iload_n 1, 1) := by decide +kernel
theorem dX3_readAll_34 : decode cX3_readAll 34 = .ok (.invokevirtual 73, 3) := by decide +kernel
theorem dX3_readAll_37 : decode cX3_readAll 37 = .ok (.ifCond .ne 5, 3) := by decide +kernel
theorem dX3_readAll_40 : decode cX3_readAll 40 = .ok (.iconst 0, 1) := by decide +kernel
theorem dX3_readAll_41 : decode cX3_readAll 41 = .ok (.ireturn, 1) := by decide +kernel
theorem dX3_readAll_42 : decode cX3_readAll 42 = .ok (.aload_n 0, 1) := by decide +kernel
theorem dX3_readAll_43 : decode cX3_readAll 43 = .ok (.bipush 38, 2) := by decide +kernel
theorem dX3_readAll_45 : decode cX3_readAll 45 = .ok (.invokevirtual 66, 3) := by decide +kernel
theorem dX3_readAll_48 : decode cX3_readAll 48 = .ok (.iinc 2 1, 3) := by decide +kernel
theorem dX3_readAll_51 : decode cX3_readAll 51 = .ok (.goto (-39), 3) := by decide +kernel
theorem dX3_readAll_54 : decode cX3_readAll 54 = .ok (.iconst 1, 1) := by decide +kernel
theorem dX3_readAll_55 : decode cX3_readAll 55 = .ok (.ireturn, 1) := by decide +kernel
theorem dX3_readCompared_0 : decode cX3_readCompared 0 = .ok (.aload_n 0, 1) := by decide +kernel
theorem dX3_readCompared_1 : decode cX3_readCompared 1 = .ok (.iload_n 1, 1) := by decide +kernel
theorem dX3_readCompared_2 : decode cX3_readCompared 2 = .ok (.invokevirtual 76, 3) := by decide +kernel
theorem dX3_readCompared_5 : decode cX3_readCompared 5 = .ok (.ifCond .ne 5, 3) := by decide +kernel
theorem dX3_readCompared_8 : decode cX3_readCompared 8 = .ok (.iconst 0, 1) := by decide +kernel
theorem dX3_readCompared_9 : decode cX3_readCompared 9 = .ok (.ireturn, 1) := by decide +kernel
theorem dX3_readCompared_10 : decode cX3_readCompared 10 = .ok (.aload_n 0, 1) := by decide +kernel
theorem dX3_readCompared_11 : decode cX3_readCompared 11 = .ok (.getfield 24, 3) := by decide +kernel
theorem dX3_readCompared_14 : decode cX3_readCompared 14 = .ok (.aload_n 0, 1) := by decide +kernel
theorem dX3_readCompared_15 : decode cX3_readCompared 15 = .ok (.getfield 32, 3) := by decide +kernel
theorem dX3_readCompared_18 : decode cX3_readCompared 18 = .ok (.invokevirtual 79, 3) := by decide +kernel
theorem dX3_readCompared_21 : decode cX3_readCompared 21 = .ok (.istore_n 2, 1) := by decide +kernel
theorem dX3_readCompared_22 : decode cX3_readCompared 22 = .ok (.iload_n 2, 1) := by decide +kernel
theorem dX3_readCompared_23 : decode cX3_readCompared 23 = .ok (.bipush 60, 2) := by decide +kernel
theorem dX3_readCompared_25 : decode cX3_readCompared 25 = .ok (.if_icmp .eq 17, 3) := by decide +kernel
theorem dX3_readCompared_28 : decode cX3_readCompared 28 = .ok (.iload_n 2, 1) := by decide +kernel
theorem dX3_readCompared_29 : decode cX3_readCompared 29 = .ok (.bipush 61, 2) := by decide +kernel
theorem dX3_readCompared_31 : decode cX3_readCompared 31 = .ok (.if_icmp .eq 11, 3) := by decide +kernel
theorem dX3_readCompared_34 : decode cX3_readCompared 34 = .ok (.iload_n 2, 1) := by decide +kernel
theorem dX3_readCompared_35 : decode cX3_readCompared 35 = .ok (.bipush 62, 2) := by decide +kernel
theorem dX3_readCompared_37 : decode cX3_readCompared 37 = .ok (.if_icmp .eq 5, 3) := by decide +kernel
theorem dX3_readCompared_40 : decode cX3_readCompared 40 = .ok (.iconst 1, 1) := by decide +kernel
theorem dX3_readCompared_41 : decode cX3_readCompared 41 = .ok (.ireturn, 1) := by decide +kernel
theorem dX3_readCompared_42 : decode cX3_readCompared 42 = .ok (.aload_n 0, 1) := by decide +kernel
theorem dX3_readCompared_43 : decode cX3_readCompared 43 = .ok (.dup, 1) := by decide +kernel
theorem dX3_readCompared_44 : decode cX3_readCompared 44 = .ok (.getfield 32, 3) := by decide +kernel
theorem dX3_readCompared_47 : decode cX3_readCompared 47 = .ok (.iconst 1, 1) := by decide +kernel
theorem dX3_readCompared_48 : decode cX3_readCompared 48 = .ok (.iadd, 1) := by decide +kernel
theorem dX3_readCompared_49 : decode cX3_readCompared 49 = .ok (.putfield 32, 3) := by decide +kernel
theorem dX3_readCompared_52 : decode cX3_readCompared 52 = .ok (.aload_n 0, 1) := by decide +kernel
theorem dX3_readCompared_53 : decode cX3_readCompared 53 = .ok (.iload_n 1, 1) := by decide +kernel
theorem dX3_readCompared_54 : decode cX3_readCompared 54 = .ok (.invokevirtual 76, 3) := by decide +kernel
theorem dX3_readCompared_57 : decode cX3_readCompared 57 = .ok (.ifCond .ne 5, 3) := by decide +kernel
theorem dX3_readCompared_60 : decode cX3_readCompared 60 = .ok (.iconst 0, 1) := by decide +kernel
theorem dX3_readCompared_61 : decode cX3_readCompared 61 = .ok (.ireturn, 1) := by decide +kernel
theorem dX3_readCompared_62 : decode cX3_readCompared 62 = .ok (.aload_n 0, 1) := by decide +kernel
theorem dX3_readCompared_63 : decode cX3_readCompared 63 = .ok (.iload_n 2, 1) := by decide +kernel
theorem dX3_readCompared_64 : decode cX3_readCompared 64 = .ok (.invokevirtual 66, 3) := by decide +kernel
theorem dX3_readCompared_67 : decode cX3_readCompared 67 = .ok (.iconst 1, 1) := by decide +kernel
theorem dX3_readCompared_68 : decode cX3_readCompared 68 = .ok (.ireturn, 1) := by decide +kernel
theorem dX3_readSum_0 : decode cX3_readSum 0 = .ok (.aload_n 0, 1) := by decide +kernel
theorem dX3_readSum_1 : decode cX3_readSum 1 = .ok (.iload_n 1, 1) := by decide +kernel
theorem dX3_readSum_2 : decode cX3_readSum 2 = .ok (.invokevirtual 83, 3) := by decide +kernel
theorem dX3_readSum_5 : decode cX3_readSum 5 = .ok (.ifCond .ne 5, 3) := by decide +kernel
theorem dX3_readSum_8 : decode cX3_readSum 8 = .ok (.iconst 0, 1) := by decide +kernel
theorem dX3_readSum_9 : decode cX3_readSum 9 = .ok (.ireturn, 1) := by decide +kernel
theorem dX3_readSum_10 : decode cX3_readSum 10 = .ok (.iconst 0, 1) := by decide +kernel
theorem dX3_readSum_11 : decode cX3_readSum 11 = .ok (.istore_n 2, 1) := by decide +kernel
theorem dX3_readSum_12 : decode cX3_readSum 12 = .ok (.iload_n 2, 1) := by decide +kernel
theorem dX3_readSum_13 : decode cX3_readSum 13 = .ok (.aload_n 0, 1) := by decide +kernel
theorem dX3_readSum_14 : decode cX3_readSum 14 = .ok (.getfield 24, 3) := by decide +kernel
theorem dX3_readSum_17 : decode cX3_readSum 17 = .ok (.invokevirtual 52, 3) := by decide +kernel
theorem dX3_readSum_20 : decode cX3_readSum 20 = .ok (.if_icmp .ge 60, 3) := by decide +kernel
theorem dX3_readSum_23 : decode cX3_readSum 23 = .ok (.aload_n 0, 1) := by decide +kernel
theorem dX3_readSum_24 : decode cX3_readSum 24 = .ok (.getfield 24, 3) := by decide +kernel
theorem dX3_readSum_27 : decode cX3_readSum 27 = .ok (.aload_n 0, 1) := by decide +kernel
theorem dX3_readSum_28 : decode cX3_readSum 28 = .ok (.getfield 32, 3) := by decide +kernel
theorem dX3_readSum_31 : decode cX3_readSum 31 = .ok (.invokevirtual 79, 3) := by decide +kernel
theorem dX3_readSum_34 : decode cX3_readSum 34 = .ok (.istore_n 3, 1) := by decide +kernel
theorem dX3_readSum_35 : decode cX3_readSum 35 = .ok (.iload_n 3, 1) := by decide +kernel
theorem dX3_readSum_36 : decode cX3_readSum 36 = .ok (.bipush 43, 2) := by decide +kernel
theorem dX3_readSum_38 : decode cX3_readSum 38 = .ok (.if_icmp .eq 11, 3) := by decide +kernel
theorem dX3_readSum_41 : decode cX3_readSum 41 = .ok (.iload_n 3, 1) := by decide +kernel
theorem dX3_readSum_42 : decode cX3_readSum 42 = .ok (.bipush 45, 2) := by decide +kernel
theorem dX3_readSum_44 : decode cX3_readSum 44 = .ok (.if_icmp .eq 5, 3) := by decide +kernel
theorem dX3_readSum_47 : decode cX3_readSum 47 = .ok (.iconst 1, 1) := by decide +kernel
theorem dX3_readSum_48 : decode cX3_readSum 48 = .ok (.ireturn, 1) := by decide +kernel
theorem dX3_readSum_49 : decode cX3_readSum 49 = .ok (.aload_n 0, 1) := by decide +kernel
theorem dX3_readSum_50 : decode cX3_readSum 50 = .ok (.dup, 1) := by decide +kernel
theorem dX3_readSum_51 : decode cX3_readSum 51 = .ok (.getfield 32, 3) := by decide +kernel
theorem dX3_readSum_54 : decode cX3_readSum 54 = .ok (.iconst 1, 1) := by decide +kernel
theorem dX3_readSum_55 : decode cX3_readSum 55 = .ok (.iadd, 1) := by decide +kernel
theorem dX3_readSum_56 : decode cX3_readSum 56 = .ok (.putfield 32, 3) := by decide +kernel
theorem dX3_readSum_59 : decode cX3_readSum 59 = .ok (.aload_n 0, 1) := by decide +kernel
theorem dX3_readSum_60 : decode cX3_readSum 60 = .ok (.iload_n 1, 1) := by decide +kernel
theorem dX3_readSum_61 : decode cX3_readSum 61 = .ok (.invokevirtual 83, 3) := by decide +kernel
theorem dX3_readSum_64 : decode cX3_readSum 64 = .ok (.ifCond .ne 5, 3) := by decide +kernel
theorem dX3_readSum_67 : decode cX3_readSum 67 = .ok (.iconst 0, 1) := by decide +kernel
theorem dX3_readSum_68 : decode cX3_readSum 68 = .ok (.ireturn, 1) := by decide +kernel
theorem dX3_readSum_69 : decode cX3_readSum 69 = .ok (.aload_n 0, 1) := by decide +kernel
theorem dX3_readSum_70 : decode cX3_readSum 70 = .ok (.iload_n 3, 1) := by decide +kernel
theorem dX3_readSum_71 : decode cX3_readSum 71 = .ok (.invokevirtual 66, 3) := by decide +kernel
theorem dX3_readSum_74 : decode cX3_readSum 74 = .ok (.iinc 2 1, 3) := by decide +kernel
theorem dX3_readSum_77 : decode cX3_readSum 77 = .ok (.goto (-65), 3) := by decide +kernel
theorem dX3_readSum_80 : decode cX3_readSum 80 = .ok (.iconst 1, 1) := by decide +kernel
theorem dX3_readSum_81 : decode cX3_readSum 81 = .ok (.ireturn, 1) := by decide +kernel
theorem dX3_readProduct_0 : decode cX3_readProduct 0 = .ok (.aload_n 0, 1) := by decide +kernel
theorem dX3_readProduct_1 : decode cX3_readProduct 1 = .ok (.iload_n 1, 1) := by decide +kernel
theorem dX3_readProduct_2 : decode cX3_readProduct 2 = .ok (.invokevirtual 86, 3) := by decide +kernel
theorem dX3_readProduct_5 : decode cX3_readProduct 5 = .ok (.ifCond .ne 5, 3) := by decide +kernel
theorem dX3_readProduct_8 : decode cX3_readProduct 8 = .ok (.iconst 0, 1) := by decide +kernel
theorem dX3_readProduct_9 : decode cX3_readProduct 9 = .ok (.ireturn, 1) := by decide +kernel
theorem dX3_readProduct_10 : decode cX3_readProduct 10 = .ok (.iconst 0, 1) := by decide +kernel
theorem dX3_readProduct_11 : decode cX3_readProduct 11 = .ok (.istore_n 2, 1) := by decide +kernel
theorem dX3_readProduct_12 : decode cX3_readProduct 12 = .ok (.iload_n 2, 1) := by decide +kernel
theorem dX3_readProduct_13 : decode cX3_readProduct 13 = .ok (.aload_n 0, 1) := by decide +kernel
theorem dX3_readProduct_14 : decode cX3_readProduct 14 = .ok (.getfield 24, 3) := by decide +kernel
theorem dX3_readProduct_17 : decode cX3_readProduct 17 = .ok (.invokevirtual 52, 3) := by decide +kernel
theorem dX3_readProduct_20 : decode cX3_readProduct 20 = .ok (.if_icmp .ge 66, 3) := by decide +kernel
theorem dX3_readProduct_23 : decode cX3_readProduct 23 = .ok (.aload_n 0, 1) := by decide +kernel
theorem dX3_readProduct_24 : decode cX3_readProduct 24 = .ok (.getfield 24, 3) := by decide +kernel
theorem dX3_readProduct_27 : decode cX3_readProduct 27 = .ok (.aload_n 0, 1) := by decide +kernel
theorem dX3_readProduct_28 : decode cX3_readProduct 28 = .ok (.getfield 32, 3) := by decide +kernel
theorem dX3_readProduct_31 : decode cX3_readProduct 31 = .ok (.invokevirtual 79, 3) := by decide +kernel
theorem dX3_readProduct_34 : decode cX3_readProduct 34 = .ok (.istore_n 3, 1) := by decide +kernel
theorem dX3_readProduct_35 : decode cX3_readProduct 35 = .ok (.iload_n 3, 1) := by decide +kernel
theorem dX3_readProduct_36 : decode cX3_readProduct 36 = .ok (.bipush 42, 2) := by decide +kernel
theorem dX3_readProduct_38 : decode cX3_readProduct 38 = .ok (.if_icmp .eq 17, 3) := by decide +kernel
theorem dX3_readProduct_41 : decode cX3_readProduct 41 = .ok (.iload_n 3, 1) := by decide +kernel
theorem dX3_readProduct_42 : decode cX3_readProduct 42 = .ok (.bipush 47, 2) := by decide +kernel
theorem dX3_readProduct_44 : decode cX3_readProduct 44 = .ok (.if_icmp .eq 11, 3) := by decide +kernel
theorem dX3_readProduct_47 : decode cX3_readProduct 47 = .ok (.iload_n 3, 1) := by decide +kernel
theorem dX3_readProduct_48 : decode cX3_readProduct 48 = .ok (.bipush 37, 2) := by decide +kernel
theorem dX3_readProduct_50 : decode cX3_readProduct 50 = .ok (.if_icmp .eq 5, 3) := by decide +kernel
theorem dX3_readProduct_53 : decode cX3_readProduct 53 = .ok (.iconst 1, 1) := by decide +kernel
theorem dX3_readProduct_54 : decode cX3_readProduct 54 = .ok (.ireturn, 1) := by decide +kernel
theorem dX3_readProduct_55 : decode cX3_readProduct 55 = .ok (.aload_n 0, 1) := by decide +kernel
theorem dX3_readProduct_56 : decode cX3_readProduct 56 = .ok (.dup, 1) := by decide +kernel
theorem dX3_readProduct_57 : decode cX3_readProduct 57 = .ok (.getfield 32, 3) := by decide +kernel
theorem dX3_readProduct_60 : decode cX3_readProduct 60 = .ok (.iconst 1, 1) := by decide +kernel
theorem dX3_readProduct_61 : decode cX3_readProduct 61 = .ok (.iadd, 1) := by decide +kernel
theorem dX3_readProduct_62 : decode cX3_readProduct 62 = .ok (.putfield 32, 3) := by decide +kernel
theorem dX3_readProduct_65 : decode cX3_readProduct 65 = .ok (.aload_n 0, 1) := by decide +kernel
theorem dX3_readProduct_66 : decode cX3_readProduct 66 = .ok (.iload_n 1, 1) := by decide +kernel
theorem dX3_readProduct_67 : decode cX3_readProduct 67 = .ok (.invokevirtual 86, 3) := by decide +kernel
theorem dX3_readProduct_70 : decode cX3_readProduct 70 = .ok (.ifCond .ne 5, 3) := by decide +kernel
theorem dX3_readProduct_73 : decode cX3_readProduct 73 = .ok (.iconst 0, 1) := by decide +kernel
theorem dX3_readProduct_74 : decode cX3_readProduct 74 = .ok (.ireturn, 1) := by decide +kernel
theorem dX3_readProduct_75 : decode cX3_readProduct 75 = .ok (.aload_n 0, 1) := by decide +kernel
theorem dX3_readProduct_76 : decode cX3_readProduct 76 = .ok (.iload_n 3, 1) := by decide +kernel
theorem dX3_readProduct_77 : decode cX3_readProduct 77 = .ok (.invokevirtual 66, 3) := by decide +kernel
theorem dX3_readProduct_80 : decode cX3_readProduct 80 = .ok (.iinc 2 1, 3) := by decide +kernel
theorem dX3_readProduct_83 : decode cX3_readProduct 83 = .ok (.goto (-71), 3) := by decide +kernel
theorem dX3_readProduct_86 : decode cX3_readProduct 86 = .ok (.iconst 1, 1) := by decide +kernel
theorem dX3_readProduct_87 : decode cX3_readProduct 87 = .ok (.ireturn, 1) := by decide +kernel
theorem dX3_readOperand_0 : decode cX3_readOperand 0 = .ok (.aload_n 0, 1) := by decide +kernel
theorem dX3_readOperand_1 : decode cX3_readOperand 1 = .ok (.getfield 24, 3) := by decide +kernel
theorem dX3_readOperand_4 : decode cX3_readOperand 4 = .ok (.aload_n 0, 1) := by decide +kernel
theorem dX3_readOperand_5 : decode cX3_readOperand 5 = .ok (.getfield 32, 3) := by decide +kernel
theorem dX3_readOperand_8 : decode cX3_readOperand 8 = .ok (.invokevirtual 79, 3) := by decide +kernel
theorem dX3_readOperand_11 : decode cX3_readOperand 11 = .ok (.istore_n 2, 1) := by decide +kernel
theorem dX3_readOperand_12 : decode cX3_readOperand 12 = .ok (.iload_n 2, 1) := by decide +kernel
theorem dX3_readOperand_13 : decode cX3_readOperand 13 = .ok (.bipush 40, 2) := by decide +kernel
theorem dX3_readOperand_15 : decode cX3_readOperand 15 = .ok (.if_icmp .eq 15, 3) := by decide +kernel
theorem dX3_readOperand_18 : decode cX3_readOperand 18 = .ok (.iload_n 2, 1) := by decide +kernel
theorem dX3_readOperand_19 : decode cX3_readOperand 19 = .ok (.bipush 33, 2) := by decide +kernel
theorem dX3_readOperand_21 : decode cX3_readOperand 21 = .ok (.if_icmp .eq 9, 3) := by decide +kernel
theorem dX3_readOperand_24 : decode cX3_readOperand 24 = .ok (.iload_n 2, 1) := by decide +kernel
theorem dX3_readOperand_25 : decode cX3_readOperand 25 = .ok (.bipush 45, 2) := by decide +kernel
theorem dX3_readOperand_27 : decode cX3_readOperand 27 = .ok (.if_icmp .ne 25, 3) := by decide +kernel
theorem dX3_readOperand_30 : decode cX3_readOperand 30 = .ok (.iload_n 1, 1) := by decide +kernel
theorem dX3_readOperand_31 : decode cX3_readOperand 31 = .ok (.bipush 6, 2) := by decide +kernel
theorem dX3_readOperand_33 : decode cX3_readOperand 33 = .ok (.if_icmp .ge 17, 3) := by decide +kernel
theorem dX3_readOperand_36 : decode cX3_readOperand 36 = .ok (.aload_n 0, 1) := by decide +kernel
theorem dX3_readOperand_37 : decode cX3_readOperand 37 = .ok (.iload_n 1, 1) := by decide +kernel
theorem dX3_readOperand_38 : decode cX3_readOperand 38 = .ok (.iconst 1, 1) := by decide +kernel
theorem dX3_readOperand_39 : decode cX3_readOperand 39 = .ok (.iadd, 1) := by decide +kernel
theorem dX3_readOperand_40 : decode cX3_readOperand 40 = .ok (.invokevirtual 89, 3) := by decide +kernel
theorem dX3_readOperand_43 : decode cX3_readOperand 43 = .ok (.ifCond .eq 7, 3) := by decide +kernel
theorem dX3_readOperand_46 : decode cX3_readOperand 46 = .ok (.iconst 1, 1) := by decide +kernel
theorem dX3_readOperand_47 : decode cX3_readOperand 47 = .ok (.goto 4, 3) := by decide +kernel
theorem dX3_readOperand_50 : decode cX3_readOperand 50 = .ok (.iconst 0, 1) := by decide +kernel
theorem dX3_readOperand_51 : decode cX3_readOperand 51 = .ok (.ireturn, 1) := by decide +kernel
theorem dX3_readOperand_52 : decode cX3_readOperand 52 = .ok (.iload_n 2, 1) := by decide +kernel
theorem dX3_readOperand_53 : decode cX3_readOperand 53 = .ok (.invokestatic 92, 3) := by decide +kernel
theorem dX3_readOperand_56 : decode cX3_readOperand 56 = .ok (.ifCond .eq 9, 3) := by decide +kernel
theorem dX3_readOperand_59 : decode cX3_readOperand 59 = .ok (.aload_n 0, 1) := by decide +kernel
theorem dX3_readOperand_60 : decode cX3_readOperand 60 = .ok (.invokevirtual 97, 3) := by decide +kernel
theorem dX3_readOperand_63 : decode cX3_readOperand 63 = .ok (.iconst 1, 1) := by decide +kernel
theorem dX3_readOperand_64 : decode cX3_readOperand 64 = .ok (.ireturn, 1) := by decide +kernel
theorem dX3_readOperand_65 : decode cX3_readOperand 65 = .ok (.iload_n 2, 1) := by decide +kernel
theorem dX3_readOperand_66 : decode cX3_readOperand 66 = .ok (.invokestatic 100, 3) := by decide +kernel
theorem dX3_readOperand_69 : decode cX3_readOperand 69 = .ok (.ifCond .ne 5, 3) := by decide +kernel
theorem dX3_readOperand_72 : decode cX3_readOperand 72 = .ok (.iconst 0, 1) := by decide +kernel
theorem dX3_readOperand_73 : decode cX3_readOperand 73 = .ok (.ireturn, 1) := by decide +kernel
theorem dX3_readOperand_74 : decode cX3_readOperand 74 = .ok (.aload_n 0, 1) := by decide +kernel
theorem dX3_readOperand_75 : decode cX3_readOperand 75 = .ok (.dup, 1) := by decide +kernel
theorem dX3_readOperand_76 : decode cX3_readOperand 76 = .ok (.getfield 32, 3) := by decide +kernel
theorem dX3_readOperand_79 : decode cX3_readOperand 79 = .ok (.iconst 1, 1) := by decide +kernel
theorem dX3_readOperand_80 : decode cX3_readOperand 80 = .ok (.iadd, 1) := by decide +kernel
theorem dX3_readOperand_81 : decode cX3_readOperand 81 = .ok (.putfield 32, 3) := by decide +kernel
theorem dX3_readOperand_84 : decode cX3_readOperand 84 = .ok (.aload_n 0, 1) := by decide +kernel
theorem dX3_readOperand_85 : decode cX3_readOperand 85 = .ok (.iload_n 2, 1) := by decide +kernel
theorem dX3_readOperand_86 : decode cX3_readOperand 86 = .ok (.invokevirtual 66, 3) := by decide +kernel
theorem dX3_readOperand_89 : decode cX3_readOperand 89 = .ok (.iconst 1, 1) := by decide +kernel
theorem dX3_readOperand_90 : decode cX3_readOperand 90 = .ok (.ireturn, 1) := by decide +kernel
theorem dX3_readOpened_0 : decode cX3_readOpened 0 = .ok (.aload_n 0, 1) := by decide +kernel
theorem dX3_readOpened_1 : decode cX3_readOpened 1 = .ok (.getfield 24, 3) := by decide +kernel
theorem dX3_readOpened_4 : decode cX3_readOpened 4 = .ok (.aload_n 0, 1) := by decide +kernel
theorem dX3_readOpened_5 : decode cX3_readOpened 5 = .ok (.getfield 32, 3) := by decide +kernel
theorem dX3_readOpened_8 : decode cX3_readOpened 8 = .ok (.invokevirtual 79, 3) := by decide +kernel
theorem dX3_readOpened_11 : decode cX3_readOpened 11 = .ok (.istore_n 2, 1) := by decide +kernel
theorem dX3_readOpened_12 : decode cX3_readOpened 12 = .ok (.aload_n 0, 1) := by decide +kernel
theorem dX3_readOpened_13 : decode cX3_readOpened 13 = .ok (.dup, 1) := by decide +kernel
theorem dX3_readOpened_14 : decode cX3_readOpened 14 = .ok (.getfield 32, 3) := by decide +kernel
theorem dX3_readOpened_17 : decode cX3_readOpened 17 = .ok (.iconst 1, 1) := by decide +kernel
theorem dX3_readOpened_18 : decode cX3_readOpened 18 = .ok (.iadd, 1) := by decide +kernel
theorem dX3_readOpened_19 : decode cX3_readOpened 19 = .ok (.putfield 32, 3) := by decide +kernel
theorem dX3_readOpened_22 : decode cX3_readOpened 22 = .ok (.iload_n 2, 1) := by decide +kernel
theorem dX3_readOpened_23 : decode cX3_readOpened 23 = .ok (.bipush 40, 2) := by decide +kernel
theorem dX3_readOpened_25 : decode cX3_readOpened 25 = .ok (.if_icmp .ne 26, 3) := by decide +kernel
theorem dX3_readOpened_28 : decode cX3_readOpened 28 = .ok (.aload_n 0, 1) := by decide +kernel
theorem dX3_readOpened_29 : decode cX3_readOpened 29 = .ok (.iload_n 1, 1) := by decide +kernel
theorem dX3_readOpened_30 : decode cX3_readOpened 30 = .ok (.invokevirtual 63, 3) := by decide +kernel
theorem dX3_readOpened_33 : decode cX3_readOpened 33 = .ok (.ifCond .eq 16, 3) := by decide +kernel
theorem dX3_readOpened_36 : decode cX3_readOpened 36 = .ok (.aload_n 0, 1) := by decide +kernel
theorem dX3_readOpened_37 : decode cX3_readOpened 37 = .ok (.bipush 41, 2) := by decide +kernel
theorem dX3_readOpened_39 : decode cX3_readOpened 39 = .ok (.invokevirtual 59, 3) := by decide +kernel
theorem dX3_readOpened_42 : decode cX3_readOpened 42 = .ok (.ifCond .eq 7, 3) := by decide +kernel
theorem dX3_readOpened_45 : decode cX3_readOpened 45 = .ok (.iconst 1, 1) := by decide +kernel
theorem dX3_readOpened_46 : decode cX3_readOpened 46 = .ok (.goto 4, 3) := by decide +kernel
theorem dX3_readOpened_49 : decode cX3_readOpened 49 = .ok (.iconst 0, 1) := by decide +kernel
theorem dX3_readOpened_50 : decode cX3_readOpened 50 = .ok (.ireturn, 1) := by decide +kernel
theorem dX3_readOpened_51 : decode cX3_readOpened 51 = .ok (.aload_n 0, 1) := by decide +kernel
theorem dX3_readOpened_52 : decode cX3_readOpened 52 = .ok (.iload_n 1, 1) := by decide +kernel
theorem dX3_readOpened_53 : decode cX3_readOpened 53 = .ok (.invokevirtual 86, 3) := by decide +kernel
theorem dX3_readOpened_56 : decode cX3_readOpened 56 = .ok (.ifCond .ne 5, 3) := by decide +kernel
theorem dX3_readOpened_59 : decode cX3_readOpened 59 = .ok (.iconst 0, 1) := by decide +kernel
theorem dX3_readOpened_60 : decode cX3_readOpened 60 = .ok (.ireturn, 1) := by decide +kernel
theorem dX3_readOpened_61 : decode cX3_readOpened 61 = .ok (.aload_n 0, 1) := by decide +kernel
theorem dX3_readOpened_62 : decode cX3_readOpened 62 = .ok (.iload_n 2, 1) := by decide +kernel
theorem dX3_readOpened_63 : decode cX3_readOpened 63 = .ok (.bipush 45, 2) := by decide +kernel
theorem dX3_readOpened_65 : decode cX3_readOpened 65 = .ok (.if_icmp .ne 8, 3) := by decide +kernel
theorem dX3_readOpened_68 : decode cX3_readOpened 68 = .ok (.bipush 126, 2) := by decide +kernel
theorem dX3_readOpened_70 : decode cX3_readOpened 70 = .ok (.goto 4, 3) := by decide +kernel
theorem dX3_readOpened_73 : decode cX3_readOpened 73 = .ok (.iload_n 2, 1) := by decide +kernel
theorem dX3_readOpened_74 : decode cX3_readOpened 74 = .ok (.invokevirtual 66, 3) := by decide +kernel
theorem dX3_readOpened_77 : decode cX3_readOpened 77 = .ok (.iconst 1, 1) := by decide +kernel
theorem dX3_readOpened_78 : decode cX3_readOpened 78 = .ok (.ireturn, 1) := by decide +kernel
theorem dX3_readNumber_0 : decode cX3_readNumber 0 = .ok (.iconst 0, 1) := by decide +kernel
theorem dX3_readNumber_1 : decode cX3_readNumber 1 = .ok (.istore_n 1, 1) := by decide +kernel
theorem dX3_readNumber_2 : decode cX3_readNumber 2 = .ok (.iconst 0, 1) := by decide +kernel
theorem dX3_readNumber_3 : decode cX3_readNumber 3 = .ok (.istore_n 2, 1) := by decide +kernel
theorem dX3_readNumber_4 : decode cX3_readNumber 4 = .ok (.iload_n 2, 1) := by decide +kernel
theorem dX3_readNumber_5 : decode cX3_readNumber 5 = .ok (.iconst 4, 1) := by decide +kernel
theorem dX3_readNumber_6 : decode cX3_readNumber 6 = .ok (.if_icmp .ge 56, 3) := by decide +kernel
theorem dX3_readNumber_9 : decode cX3_readNumber 9 = .ok (.aload_n 0, 1) := by decide +kernel
theorem dX3_readNumber_10 : decode cX3_readNumber 10 = .ok (.getfield 24, 3) := by decide +kernel
theorem dX3_readNumber_13 : decode cX3_readNumber 13 = .ok (.aload_n 0, 1) := by decide +kernel
theorem dX3_readNumber_14 : decode cX3_readNumber 14 = .ok (.getfield 32, 3) := by decide +kernel
theorem dX3_readNumber_17 : decode cX3_readNumber 17 = .ok (.invokevirtual 79, 3) := by decide +kernel
theorem dX3_readNumber_20 : decode cX3_readNumber 20 = .ok (.invokestatic 92, 3) := by decide +kernel
theorem dX3_readNumber_23 : decode cX3_readNumber 23 = .ok (.ifCond .eq 39, 3) := by decide +kernel
theorem dX3_readNumber_26 : decode cX3_readNumber 26 = .ok (.iload_n 1, 1) := by decide +kernel
theorem dX3_readNumber_27 : decode cX3_readNumber 27 = .ok (.bipush 10, 2) := by decide +kernel
theorem dX3_readNumber_29 : decode cX3_readNumber 29 = .ok (.imul, 1) := by decide +kernel
theorem dX3_readNumber_30 : decode cX3_readNumber 30 = .ok (.aload_n 0, 1) := by decide +kernel
theorem dX3_readNumber_31 : decode cX3_readNumber 31 = .ok (.getfield 24, 3) := by decide +kernel
theorem dX3_readNumber_34 : decode cX3_readNumber 34 = .ok (.aload_n 0, 1) := by decide +kernel
theorem dX3_readNumber_35 : decode cX3_readNumber 35 = .ok (.getfield 32, 3) := by decide +kernel
theorem dX3_readNumber_38 : decode cX3_readNumber 38 = .ok (.invokevirtual 79, 3) := by decide +kernel
theorem dX3_readNumber_41 : decode cX3_readNumber 41 = .ok (.iadd, 1) := by decide +kernel
theorem dX3_readNumber_42 : decode cX3_readNumber 42 = .ok (.bipush 48, 2) := by decide +kernel
theorem dX3_readNumber_44 : decode cX3_readNumber 44 = .ok (.isub, 1) := by decide +kernel
theorem dX3_readNumber_45 : decode cX3_readNumber 45 = .ok (.istore_n 1, 1) := by decide +kernel
theorem dX3_readNumber_46 : decode cX3_readNumber 46 = .ok (.aload_n 0, 1) := by decide +kernel
theorem dX3_readNumber_47 : decode cX3_readNumber 47 = .ok (.dup, 1) := by decide +kernel
theorem dX3_readNumber_48 : decode cX3_readNumber 48 = .ok (.getfield 32, 3) := by decide +kernel
theorem dX3_readNumber_51 : decode cX3_readNumber 51 = .ok (.iconst 1, 1) := by decide +kernel
theorem dX3_readNumber_52 : decode cX3_readNumber 52 = .ok (.iadd, 1) := by decide +kernel
theorem dX3_readNumber_53 : decode cX3_readNumber 53 = .ok (.putfield 32, 3) := by decide +kernel
theorem dX3_readNumber_56 : decode cX3_readNumber 56 = .ok (.iinc 2 1, 3) := by decide +kernel
theorem dX3_readNumber_59 : decode cX3_readNumber 59 = .ok (.goto (-55), 3) := by decide +kernel
theorem dX3_readNumber_62 : decode cX3_readNumber 62 = .ok (.aload_n 0, 1) := by decide +kernel
theorem dX3_readNumber_63 : decode cX3_readNumber 63 = .ok (.iload_n 1, 1) := by decide +kernel
theorem dX3_readNumber_64 : decode cX3_readNumber 64 = .ok (.invokevirtual 103, 3) := by decide +kernel
theorem dX3_readNumber_67 : decode cX3_readNumber 67 = .ok (.return_, 1) := by decide +kernel
theorem dX3_goesOnWith_0 : decode cX3_goesOnWith 0 = .ok (.aload_n 0, 1) := by decide +kernel
theorem dX3_goesOnWith_1 : decode cX3_goesOnWith 1 = .ok (.getfield 24, 3) := by decide +kernel
theorem dX3_goesOnWith_4 : decode cX3_goesOnWith 4 = .ok (.aload_n 0, 1) := by decide +kernel
theorem dX3_goesOnWith_5 : decode cX3_goesOnWith 5 = .ok (.getfield 32, 3) := by decide +kernel
theorem dX3_goesOnWith_8 : decode cX3_goesOnWith 8 = .ok (.invokevirtual 79, 3) := by decide +kernel
theorem dX3_goesOnWith_11 : decode cX3_goesOnWith 11 = .ok (.iload_n 1, 1) := by decide +kernel
theorem dX3_goesOnWith_12 : decode cX3_goesOnWith 12 = .ok (.if_icmp .eq 5, 3) := by decide +kernel
theorem dX3_goesOnWith_15 : decode cX3_goesOnWith 15 = .ok (.iconst 0, 1) := by decide +kernel
theorem dX3_goesOnWith_16 : decode cX3_goesOnWith 16 = .ok (.ireturn, 1) := by decide +kernel
theorem dX3_goesOnWith_17 : decode cX3_goesOnWith 17 = .ok (.aload_n 0, 1) := by decide +kernel
theorem dX3_goesOnWith_18 : decode cX3_goesOnWith 18 = .ok (.dup, 1) := by decide +kernel
theorem dX3_goesOnWith_19 : decode cX3_goesOnWith 19 = .ok (.getfield 32, 3) := by decide +kernel
theorem dX3_goesOnWith_22 : decode cX3_goesOnWith 22 = .ok (.iconst 1, 1) := by decide +kernel
theorem dX3_goesOnWith_23 : decode cX3_goesOnWith 23 = .ok (.iadd, 1) := by decide +kernel
theorem dX3_goesOnWith_24 : decode cX3_goesOnWith 24 = .ok (.putfield 32, 3) := by decide +kernel
theorem dX3_goesOnWith_27 : decode cX3_goesOnWith 27 = .ok (.iconst 1, 1) := by decide +kernel
theorem dX3_goesOnWith_28 : decode cX3_goesOnWith 28 = .ok (.ireturn, 1) := by decide +kernel
theorem dX3_write_0 : decode cX3_write 0 = .ok (.aload_n 0, 1) := by decide +kernel
theorem dX3_write_1 : decode cX3_write 1 = .ok (.iload_n 1, 1) := by decide +kernel
theorem dX3_write_2 : decode cX3_write 2 = .ok (.ineg, 1) := by decide +kernel
theorem dX3_write_3 : decode cX3_write 3 = .ok (.invokevirtual 103, 3) := by decide +kernel
theorem dX3_write_6 : decode cX3_write 6 = .ok (.return_, 1) := by decide +kernel
theorem dX3_writeCode_0 : decode cX3_writeCode 0 = .ok (.aload_n 0, 1) := by decide +kernel
theorem dX3_writeCode_1 : decode cX3_writeCode 1 = .ok (.getfield 36, 3) := by decide +kernel
theorem dX3_writeCode_4 : decode cX3_writeCode 4 = .ok (.sipush 128, 3) := by decide +kernel
theorem dX3_writeCode_7 : decode cX3_writeCode 7 = .ok (.if_icmp .ge 23, 3) := by decide +kernel
theorem dX3_writeCode_10 : decode cX3_writeCode 10 = .ok (.aload_n 0, 1) := by decide +kernel
theorem dX3_writeCode_11 : decode cX3_writeCode 11 = .ok (.getfield 15, 3) := by decide +kernel
theorem dX3_writeCode_14 : decode cX3_writeCode 14 = .ok (.aload_n 0, 1) := by decide +kernel
theorem dX3_writeCode_15 : decode cX3_writeCode 15 = .ok (.getfield 36, 3) := by decide +kernel
theorem dX3_writeCode_18 : decode cX3_writeCode 18 = .ok (.iload_n 1, 1) := by decide +kernel
theorem dX3_writeCode_19 : decode cX3_writeCode 19 = .ok (.iastore, 1) := by decide +kernel
theorem dX3_writeCode_20 : decode cX3_writeCode 20 = .ok (.aload_n 0, 1) := by decide +kernel
theorem dX3_writeCode_21 : decode cX3_writeCode 21 = .ok (.dup, 1) := by decide +kernel
theorem dX3_writeCode_22 : decode cX3_writeCode 22 = .ok (.getfield 36, 3) := by decide +kernel
theorem dX3_writeCode_25 : decode cX3_writeCode 25 = .ok (.iconst 1, 1) := by decide +kernel
theorem dX3_writeCode_26 : decode cX3_writeCode 26 = .ok (.iadd, 1) := by decide +kernel
theorem dX3_writeCode_27 : decode cX3_writeCode 27 = .ok (.putfield 36, 3) := by decide +kernel
theorem dX3_writeCode_30 : decode cX3_writeCode 30 = .ok (.return_, 1) := by decide +kernel
theorem dX3_isName_0 : decode cX3_isName 0 = .ok (.iload_n 0, 1) := by decide +kernel
theorem dX3_isName_1 : decode cX3_isName 1 = .ok (.tableswitch 113 99 122 #[111, 111, 113, 113, 113, 113, 113, 113, 113, 113, 111, 111, 113, 113, 113, 113, 113, 111, 113, 113, 113, 111, 111, 111], 111) := by decide +kernel
theorem dX3_isName_112 : decode cX3_isName 112 = .ok (.iconst 1, 1) := by decide +kernel
theorem dX3_isName_113 : decode cX3_isName 113 = .ok (.ireturn, 1) := by decide +kernel
theorem dX3_isName_114 : decode cX3_isName 114 = .ok (.iconst 0, 1) := by decide +kernel
theorem dX3_isName_115 : decode cX3_isName 115 = .ok (.ireturn, 1) := by decide +kernel
theorem dX3_numberFor_0 : decode cX3_numberFor 0 = .ok (.aload_n 0, 1) := by decide +kernel
theorem dX3_numberFor_1 : decode cX3_numberFor 1 = .ok (.getfield 49, 3) := by decide +kernel
theorem dX3_numberFor_4 : decode cX3_numberFor 4 = .ok (.ifCond .ne 5, 3) := by decide +kernel
theorem dX3_numberFor_7 : decode cX3_numberFor 7 = .ok (.iconst 1, 1) := by decide +kernel
theorem dX3_numberFor_8 : decode cX3_numberFor 8 = .ok (.ireturn, 1) := by decide +kernel
theorem dX3_numberFor_9 : decode cX3_numberFor 9 = .ok (.aload_n 0, 1) := by decide +kernel
theorem dX3_numberFor_10 : decode cX3_numberFor 10 = .ok (.iconst 0, 1) := by decide +kernel
theorem dX3_numberFor_11 : decode cX3_numberFor 11 = .ok (.putfield 106, 3) := by decide +kernel
theorem dX3_numberFor_14 : decode cX3_numberFor 14 = .ok (.iconst 0, 1) := by decide +kernel
theorem dX3_numberFor_15 : decode cX3_numberFor 15 = .ok (.istore_n 3, 1) := by decide +kernel
theorem dX3_numberFor_16 : decode cX3_numberFor 16 = .ok (.iconst 0, 1) := by decide +kernel
theorem dX3_numberFor_17 : decode cX3_numberFor 17 = .ok (.istore 4, 2) := by decide +kernel
theorem dX3_numberFor_19 : decode cX3_numberFor 19 = .ok (.iload 4, 2) := by decide +kernel
theorem dX3_numberFor_21 : decode cX3_numberFor 21 = .ok (.aload_n 0, 1) := by decide +kernel
theorem dX3_numberFor_22 : decode cX3_numberFor 22 = .ok (.getfield 49, 3) := by decide +kernel
theorem dX3_numberFor_25 : decode cX3_numberFor 25 = .ok (.if_icmp .ge 81, 3) := by decide +kernel
theorem dX3_numberFor_28 : decode cX3_numberFor 28 = .ok (.aload_n 0, 1) := by decide +kernel
theorem dX3_numberFor_29 : decode cX3_numberFor 29 = .ok (.getfield 11, 3) := by decide +kernel
theorem dX3_numberFor_32 : decode cX3_numberFor 32 = .ok (.iload 4, 2) := by decide +kernel
theorem dX3_numberFor_34 : decode cX3_numberFor 34 = .ok (.iaload, 1) := by decide +kernel
theorem dX3_numberFor_35 : decode cX3_numberFor 35 = .ok (.istore 5, 2) := by decide +kernel
theorem dX3_numberFor_37 : decode cX3_numberFor 37 = .ok (.iload_n 3, 1) := by decide +kernel
theorem dX3_numberFor_38 : decode cX3_numberFor 38 = .ok (.ifCond .eq 19, 3) := by decide +kernel
theorem dX3_numberFor_41 : decode cX3_numberFor 41 = .ok (.iload 5, 2) := by decide +kernel
theorem dX3_numberFor_43 : decode cX3_numberFor 43 = .ok (.bipush (-59), 2) := by decide +kernel
theorem dX3_numberFor_45 : decode cX3_numberFor 45 = .ok (.if_icmp .eq 7, 3) := by decide +kernel
theorem dX3_numberFor_48 : decode cX3_numberFor 48 = .ok (.iconst 1, 1) := by decide +kernel
theorem dX3_numberFor_49 : decode cX3_numberFor 49 = .ok (.goto 4, 3) := by decide +kernel
theorem dX3_numberFor_52 : decode cX3_numberFor 52 = .ok (.iconst 0, 1) := by decide +kernel
theorem dX3_numberFor_53 : decode cX3_numberFor 53 = .ok (.istore_n 3, 1) := by decide +kernel
theorem dX3_numberFor_54 : decode cX3_numberFor 54 = .ok (.goto 46, 3) := by decide +kernel
theorem dX3_numberFor_57 : decode cX3_numberFor 57 = .ok (.iload 5, 2) := by decide +kernel
theorem dX3_numberFor_59 : decode cX3_numberFor 59 = .ok (.bipush (-59), 2) := by decide +kernel
theorem dX3_numberFor_61 : decode cX3_numberFor 61 = .ok (.if_icmp .ne 8, 3) := by decide +kernel
theorem dX3_numberFor_64 : decode cX3_numberFor 64 = .ok (.aload_n 0, 1) := by decide +kernel
theorem dX3_numberFor_65 : decode cX3_numberFor 65 = .ok (.invokevirtual 109, 3) := by decide +kernel
theorem dX3_numberFor_68 : decode cX3_numberFor 68 = .ok (.ireturn, 1) := by decide +kernel
theorem dX3_numberFor_69 : decode cX3_numberFor 69 = .ok (.iload 5, 2) := by decide +kernel
theorem dX3_numberFor_71 : decode cX3_numberFor 71 = .ok (.bipush (-63), 2) := by decide +kernel
theorem dX3_numberFor_73 : decode cX3_numberFor 73 = .ok (.if_icmp .ne 19, 3) := by decide +kernel
theorem dX3_numberFor_76 : decode cX3_numberFor 76 = .ok (.aload_n 0, 1) := by decide +kernel
theorem dX3_numberFor_77 : decode cX3_numberFor 77 = .ok (.invokevirtual 109, 3) := by decide +kernel
theorem dX3_numberFor_80 : decode cX3_numberFor 80 = .ok (.ifCond .ne 7, 3) := by decide +kernel
theorem dX3_numberFor_83 : decode cX3_numberFor 83 = .ok (.iconst 1, 1) := by decide +kernel
theorem dX3_numberFor_84 : decode cX3_numberFor 84 = .ok (.goto 4, 3) := by decide +kernel
theorem dX3_numberFor_87 : decode cX3_numberFor 87 = .ok (.iconst 0, 1) := by decide +kernel
theorem dX3_numberFor_88 : decode cX3_numberFor 88 = .ok (.istore_n 3, 1) := by decide +kernel
theorem dX3_numberFor_89 : decode cX3_numberFor 89 = .ok (.goto 11, 3) := by decide +kernel
theorem dX3_numberFor_92 : decode cX3_numberFor 92 = .ok (.aload_n 0, 1) := by decide +kernel
theorem dX3_numberFor_93 : decode cX3_numberFor 93 = .ok (.iload 5, 2) := by decide +kernel
theorem dX3_numberFor_95 : decode cX3_numberFor 95 = .ok (.aload_n 1, 1) := by decide +kernel
theorem dX3_numberFor_96 : decode cX3_numberFor 96 = .ok (.iload_n 2, 1) := by decide +kernel
theorem dX3_numberFor_97 : decode cX3_numberFor 97 = .ok (.invokevirtual 112, 3) := by decide +kernel
theorem dX3_numberFor_100 : decode cX3_numberFor 100 = .ok (.iinc 4 1, 3) := by decide +kernel
theorem dX3_numberFor_103 : decode cX3_numberFor 103 = .ok (.goto (-84), 3) := by decide +kernel
theorem dX3_numberFor_106 : decode cX3_numberFor 106 = .ok (.iconst 0, 1) := by decide +kernel
theorem dX3_numberFor_107 : decode cX3_numberFor 107 = .ok (.ireturn, 1) := by decide +kernel
theorem dX3_workOut_0 : decode cX3_workOut 0 = .ok (.iload_n 1, 1) := by decide +kernel
theorem dX3_workOut_1 : decode cX3_workOut 1 = .ok (.ifCond .lt 11, 3) := by decide +kernel
theorem dX3_workOut_4 : decode cX3_workOut 4 = .ok (.aload_n 0, 1) := by decide +kernel
theorem dX3_workOut_5 : decode cX3_workOut 5 = .ok (.iload_n 1, 1) := by decide +kernel
theorem dX3_workOut_6 : decode cX3_workOut 6 = .ok (.invokevirtual 116, 3) := by decide +kernel
theorem dX3_workOut_9 : decode cX3_workOut 9 = .ok (.goto 102, 3) := by decide +kernel
theorem dX3_workOut_12 : decode cX3_workOut 12 = .ok (.iload_n 1, 1) := by decide +kernel
theorem dX3_workOut_13 : decode cX3_workOut 13 = .ok (.ineg, 1) := by decide +kernel
theorem dX3_workOut_14 : decode cX3_workOut 14 = .ok (.invokestatic 100, 3) := by decide +kernel
theorem dX3_workOut_17 : decode cX3_workOut 17 = .ok (.ifCond .eq 26, 3) := by decide +kernel
theorem dX3_workOut_20 : decode cX3_workOut 20 = .ok (.aload_n 0, 1) := by decide +kernel
theorem dX3_workOut_21 : decode cX3_workOut 21 = .ok (.iload_n 1, 1) := by decide +kernel
theorem dX3_workOut_22 : decode cX3_workOut 22 = .ok (.ineg, 1) := by decide +kernel
theorem dX3_workOut_23 : decode cX3_workOut 23 = .ok (.aload_n 2, 1) := by decide +kernel
theorem dX3_workOut_24 : decode cX3_workOut 24 = .ok (.iload_n 3, 1) := by decide +kernel
theorem dX3_workOut_25 : decode cX3_workOut 25 = .ok (.sipush 10000, 3) := by decide +kernel
theorem dX3_workOut_28 : decode cX3_workOut 28 = .ok (.idiv, 1) := by decide +kernel
theorem dX3_workOut_29 : decode cX3_workOut 29 = .ok (.iload_n 3, 1) := by decide +kernel
theorem dX3_workOut_30 : decode cX3_workOut 30 = .ok (.sipush 10000, 3) := by decide +kernel
theorem dX3_workOut_33 : decode cX3_workOut 33 = .ok (.irem, 1) := by decide +kernel
theorem dX3_workOut_34 : decode cX3_workOut 34 = .ok (.invokestatic 119, 3) := by decide +kernel
theorem dX3_workOut_37 : decode cX3_workOut 37 = .ok (.invokevirtual 116, 3) := by decide +kernel
theorem dX3_workOut_40 : decode cX3_workOut 40 = .ok (.goto 71, 3) := by decide +kernel
theorem dX3_workOut_43 : decode cX3_workOut 43 = .ok (.iload_n 1, 1) := by decide +kernel
theorem dX3_workOut_44 : decode cX3_workOut 44 = .ok (.bipush (-33), 2) := by decide +kernel
theorem dX3_workOut_46 : decode cX3_workOut 46 = .ok (.if_icmp .ne 22, 3) := by decide +kernel
theorem dX3_workOut_49 : decode cX3_workOut 49 = .ok (.aload_n 0, 1) := by decide +kernel
theorem dX3_workOut_50 : decode cX3_workOut 50 = .ok (.aload_n 0, 1) := by decide +kernel
theorem dX3_workOut_51 : decode cX3_workOut 51 = .ok (.invokevirtual 109, 3) := by decide +kernel
theorem dX3_workOut_54 : decode cX3_workOut 54 = .ok (.ifCond .ne 7, 3) := by decide +kernel
theorem dX3_workOut_57 : decode cX3_workOut 57 = .ok (.iconst 1, 1) := by decide +kernel
theorem dX3_workOut_58 : decode cX3_workOut 58 = .ok (.goto 4, 3) := by decide +kernel
theorem dX3_workOut_61 : decode cX3_workOut 61 = .ok (.iconst 0, 1) := by decide +kernel
theorem dX3_workOut_62 : decode cX3_workOut 62 = .ok (.invokevirtual 116, 3) := by decide +kernel
theorem dX3_workOut_65 : decode cX3_workOut 65 = .ok (.goto 46, 3) := by decide +kernel
theorem dX3_workOut_68 : decode cX3_workOut 68 = .ok (.iload_n 1, 1) := by decide +kernel
theorem dX3_workOut_69 : decode cX3_workOut 69 = .ok (.bipush (-126), 2) := by decide +kernel
theorem dX3_workOut_71 : decode cX3_workOut 71 = .ok (.if_icmp .ne 15, 3) := by decide +kernel
theorem dX3_workOut_74 : decode cX3_workOut 74 = .ok (.aload_n 0, 1) := by decide +kernel
theorem dX3_workOut_75 : decode cX3_workOut 75 = .ok (.aload_n 0, 1) := by decide +kernel
theorem dX3_workOut_76 : decode cX3_workOut 76 = .ok (.invokevirtual 109, 3) := by decide +kernel
theorem dX3_workOut_79 : decode cX3_workOut 79 = .ok (.ineg, 1) := by decide +kernel
theorem dX3_workOut_80 : decode cX3_workOut 80 = .ok (.invokevirtual 116, 3) := by decide +kernel
theorem dX3_workOut_83 : decode cX3_workOut 83 = .ok (.goto 28, 3) := by decide +kernel
theorem dX3_workOut_86 : decode cX3_workOut 86 = .ok (.aload_n 0, 1) := by decide +kernel
theorem dX3_workOut_87 : decode cX3_workOut 87 = .ok (.invokevirtual 109, 3) := by decide +kernel
theorem dX3_workOut_90 : decode cX3_workOut 90 = .ok (.istore 4, 2) := by decide +kernel
theorem dX3_workOut_92 : decode cX3_workOut 92 = .ok (.aload_n 0, 1) := by decide +kernel
theorem dX3_workOut_93 : decode cX3_workOut 93 = .ok (.invokevirtual 109, 3) := by decide +kernel
theorem dX3_workOut_96 : decode cX3_workOut 96 = .ok (.istore 5, 2) := by decide +kernel
theorem dX3_workOut_98 : decode cX3_workOut 98 = .ok (.aload_n 0, 1) := by decide +kernel
theorem dX3_workOut_99 : decode cX3_workOut 99 = .ok (.iload_n 1, 1) := by decide +kernel
theorem dX3_workOut_100 : decode cX3_workOut 100 = .ok (.ineg, 1) := by decide +kernel
theorem dX3_workOut_101 : decode cX3_workOut 101 = .ok (.iload 5, 2) := by decide +kernel
theorem dX3_workOut_103 : decode cX3_workOut 103 = .ok (.iload 4, 2) := by decide +kernel
theorem dX3_workOut_105 : decode cX3_workOut 105 = .ok (.invokestatic 123, 3) := by decide +kernel
theorem dX3_workOut_108 : decode cX3_workOut 108 = .ok (.invokevirtual 116, 3) := by decide +kernel
theorem dX3_workOut_111 : decode cX3_workOut 111 = .ok (.return_, 1) := by decide +kernel
theorem dX3_valueOf_0 : decode cX3_valueOf 0 = .ok (.iload_n 0, 1) := by decide +kernel
theorem dX3_valueOf_1 : decode cX3_valueOf 1 = .ok (.tableswitch 152 100 122 #[129, 152, 152, 152, 152, 152, 152, 152, 152, 107, 113, 152, 152, 152, 152, 152, 146, 152, 152, 152, 119, 124, 136], 107) := by decide +kernel
theorem dX3_valueOf_108 : decode cX3_valueOf 108 = .ok (.iload_n 2, 1) := by decide +kernel
theorem dX3_valueOf_109 : decode cX3_valueOf 109 = .ok (.i2l, 1) := by decide +kernel
theorem dX3_valueOf_110 : decode cX3_valueOf 110 = .ok (.invokestatic 127, 3) := by decide +kernel
theorem dX3_valueOf_113 : decode cX3_valueOf 113 = .ok (.ireturn, 1) := by decide +kernel
theorem dX3_valueOf_114 : decode cX3_valueOf 114 = .ok (.iload_n 3, 1) := by decide +kernel
theorem dX3_valueOf_115 : decode cX3_valueOf 115 = .ok (.i2l, 1) := by decide +kernel
theorem dX3_valueOf_116 : decode cX3_valueOf 116 = .ok (.invokestatic 127, 3) := by decide +kernel
theorem dX3_valueOf_119 : decode cX3_valueOf 119 = .ok (.ireturn, 1) := by decide +kernel
theorem dX3_valueOf_120 : decode cX3_valueOf 120 = .ok (.iload_n 2, 1) := by decide +kernel
theorem dX3_valueOf_121 : decode cX3_valueOf 121 = .ok (.bipush 10, 2) := by decide +kernel
theorem dX3_valueOf_123 : decode cX3_valueOf 123 = .ok (.irem, 1) := by decide +kernel
theorem dX3_valueOf_124 : decode cX3_valueOf 124 = .ok (.ireturn, 1) := by decide +kernel
theorem dX3_valueOf_125 : decode cX3_valueOf 125 = .ok (.iload_n 3, 1) := by decide +kernel
theorem dX3_valueOf_126 : decode cX3_valueOf 126 = .ok (.bipush 10, 2) := by decide +kernel
theorem dX3_valueOf_128 : decode cX3_valueOf 128 = .ok (.irem, 1) := by decide +kernel
theorem dX3_valueOf_129 : decode cX3_valueOf 129 = .ok (.ireturn, 1) := by decide +kernel
theorem dX3_valueOf_130 : decode cX3_valueOf 130 = .ok (.iload_n 2, 1) := by decide +kernel
theorem dX3_valueOf_131 : decode cX3_valueOf 131 = .ok (.iload_n 3, 1) := by decide +kernel
theorem dX3_valueOf_132 : decode cX3_valueOf 132 = .ok (.isub, 1) := by decide +kernel
theorem dX3_valueOf_133 : decode cX3_valueOf 133 = .ok (.invokestatic 131, 3) := by decide +kernel
theorem dX3_valueOf_136 : decode cX3_valueOf 136 = .ok (.ireturn, 1) := by decide +kernel
theorem dX3_valueOf_137 : decode cX3_valueOf 137 = .ok (.iload_n 2, 1) := by decide +kernel
theorem dX3_valueOf_138 : decode cX3_valueOf 138 = .ok (.invokestatic 136, 3) := by decide +kernel
theorem dX3_valueOf_141 : decode cX3_valueOf 141 = .ok (.iload_n 3, 1) := by decide +kernel
theorem dX3_valueOf_142 : decode cX3_valueOf 142 = .ok (.invokestatic 136, 3) := by decide +kernel
theorem dX3_valueOf_145 : decode cX3_valueOf 145 = .ok (.iadd, 1) := by decide +kernel
theorem dX3_valueOf_146 : decode cX3_valueOf 146 = .ok (.ireturn, 1) := by decide +kernel
theorem dX3_valueOf_147 : decode cX3_valueOf 147 = .ok (.aload_n 1, 1) := by decide +kernel
theorem dX3_valueOf_148 : decode cX3_valueOf 148 = .ok (.iconst 3, 1) := by decide +kernel
theorem dX3_valueOf_149 : decode cX3_valueOf 149 = .ok (.invokevirtual 141, 3) := by decide +kernel
theorem dX3_valueOf_152 : decode cX3_valueOf 152 = .ok (.ireturn, 1) := by decide +kernel
theorem dX3_valueOf_153 : decode cX3_valueOf 153 = .ok (.aload_n 1, 1) := by decide +kernel
theorem dX3_valueOf_154 : decode cX3_valueOf 154 = .ok (.invokevirtual 144, 3) := by decide +kernel
theorem dX3_valueOf_157 : decode cX3_valueOf 157 = .ok (.ireturn, 1) := by decide +kernel
theorem dX3_joined_0 : decode cX3_joined 0 = .ok (.iload_n 0, 1) := by decide +kernel
theorem dX3_joined_1 : decode cX3_joined 1 = .ok (.tableswitch 202 37 62 #[143, 188, 202, 202, 202, 127, 119, 202, 123, 202, 131, 202, 202, 202, 202, 202, 202, 202, 202, 202, 202, 202, 202, 155, 166, 177], 119) := by decide +kernel
theorem dX3_joined_120 : decode cX3_joined 120 = .ok (.iload_n 1, 1) := by decide +kernel
theorem dX3_joined_121 : decode cX3_joined 121 = .ok (.iload_n 2, 1) := by decide +kernel
theorem dX3_joined_122 : decode cX3_joined 122 = .ok (.iadd, 1) := by decide +kernel
theorem dX3_joined_123 : decode cX3_joined 123 = .ok (.ireturn, 1) := by decide +kernel
theorem dX3_joined_124 : decode cX3_joined 124 = .ok (.iload_n 1, 1) := by decide +kernel
theorem dX3_joined_125 : decode cX3_joined 125 = .ok (.iload_n 2, 1) := by decide +kernel
theorem dX3_joined_126 : decode cX3_joined 126 = .ok (.isub, 1) := by decide +kernel
theorem dX3_joined_127 : decode cX3_joined 127 = .ok (.ireturn, 1) := by decide +kernel
theorem dX3_joined_128 : decode cX3_joined 128 = .ok (.iload_n 1, 1) := by decide +kernel
theorem dX3_joined_129 : decode cX3_joined 129 = .ok (.iload_n 2, 1) := by decide +kernel
theorem dX3_joined_130 : decode cX3_joined 130 = .ok (.imul, 1) := by decide +kernel
theorem dX3_joined_131 : decode cX3_joined 131 = .ok (.ireturn, 1) := by decide +kernel
theorem dX3_joined_132 : decode cX3_joined 132 = .ok (.iload_n 2, 1) := by decide +kernel
theorem dX3_joined_133 : decode cX3_joined 133 = .ok (.ifCond .ne 7, 3) := by decide +kernel
theorem dX3_joined_136 : decode cX3_joined 136 = .ok (.iconst 0, 1) := by decide +kernel
theorem dX3_joined_137 : decode cX3_joined 137 = .ok (.goto 6, 3) := by decide +kernel
theorem dX3_joined_140 : decode cX3_joined 140 = .ok (.iload_n 1, 1) := by decide +kernel
theorem dX3_joined_141 : decode cX3_joined 141 = .ok (.iload_n 2, 1) := by decide +kernel
theorem dX3_joined_142 : decode cX3_joined 142 = .ok (.idiv, 1) := by decide +kernel
theorem dX3_joined_143 : decode cX3_joined 143 = .ok (.ireturn, 1) := by decide +kernel
theorem dX3_joined_144 : decode cX3_joined 144 = .ok (.iload_n 2, 1) := by decide +kernel
theorem dX3_joined_145 : decode cX3_joined 145 = .ok (.ifCond .ne 7, 3) := by decide +kernel
theorem dX3_joined_148 : decode cX3_joined 148 = .ok (.iconst 0, 1) := by decide +kernel
theorem dX3_joined_149 : decode cX3_joined 149 = .ok (.goto 6, 3) := by decide +kernel
theorem dX3_joined_152 : decode cX3_joined 152 = .ok (.iload_n 1, 1) := by decide +kernel
theorem dX3_joined_153 : decode cX3_joined 153 = .ok (.iload_n 2, 1) := by decide +kernel
theorem dX3_joined_154 : decode cX3_joined 154 = .ok (.irem, 1) := by decide +kernel
theorem dX3_joined_155 : decode cX3_joined 155 = .ok (.ireturn, 1) := by decide +kernel
theorem dX3_joined_156 : decode cX3_joined 156 = .ok (.iload_n 1, 1) := by decide +kernel
theorem dX3_joined_157 : decode cX3_joined 157 = .ok (.iload_n 2, 1) := by decide +kernel
theorem dX3_joined_158 : decode cX3_joined 158 = .ok (.if_icmp .ge 7, 3) := by decide +kernel
theorem dX3_joined_161 : decode cX3_joined 161 = .ok (.iconst 1, 1) := by decide +kernel
theorem dX3_joined_162 : decode cX3_joined 162 = .ok (.goto 4, 3) := by decide +kernel
theorem dX3_joined_165 : decode cX3_joined 165 = .ok (.iconst 0, 1) := by decide +kernel
theorem dX3_joined_166 : decode cX3_joined 166 = .ok (.ireturn, 1) := by decide +kernel
theorem dX3_joined_167 : decode cX3_joined 167 = .ok (.iload_n 1, 1) := by decide +kernel
theorem dX3_joined_168 : decode cX3_joined 168 = .ok (.iload_n 2, 1) := by decide +kernel
theorem dX3_joined_169 : decode cX3_joined 169 = .ok (.if_icmp .ne 7, 3) := by decide +kernel
theorem dX3_joined_172 : decode cX3_joined 172 = .ok (.iconst 1, 1) := by decide +kernel
theorem dX3_joined_173 : decode cX3_joined 173 = .ok (.goto 4, 3) := by decide +kernel
theorem dX3_joined_176 : decode cX3_joined 176 = .ok (.iconst 0, 1) := by decide +kernel
theorem dX3_joined_177 : decode cX3_joined 177 = .ok (.ireturn, 1) := by decide +kernel
theorem dX3_joined_178 : decode cX3_joined 178 = .ok (.iload_n 1, 1) := by decide +kernel
theorem dX3_joined_179 : decode cX3_joined 179 = .ok (.iload_n 2, 1) := by decide +kernel
theorem dX3_joined_180 : decode cX3_joined 180 = .ok (.if_icmp .le 7, 3) := by decide +kernel
theorem dX3_joined_183 : decode cX3_joined 183 = .ok (.iconst 1, 1) := by decide +kernel
theorem dX3_joined_184 : decode cX3_joined 184 = .ok (.goto 4, 3) := by decide +kernel
theorem dX3_joined_187 : decode cX3_joined 187 = .ok (.iconst 0, 1) := by decide +kernel
theorem dX3_joined_188 : decode cX3_joined 188 = .ok (.ireturn, 1) := by decide +kernel
theorem dX3_joined_189 : decode cX3_joined 189 = .ok (.iload_n 1, 1) := by decide +kernel
theorem dX3_joined_190 : decode cX3_joined 190 = .ok (.ifCond .eq 11, 3) := by decide +kernel
theorem dX3_joined_193 : decode cX3_joined 193 = .ok (.iload_n 2, 1) := by decide +kernel
theorem dX3_joined_194 : decode cX3_joined 194 = .ok (.ifCond .eq 7, 3) := by decide +kernel
theorem dX3_joined_197 : decode cX3_joined 197 = .ok (.iconst 1, 1) := by decide +kernel
theorem dX3_joined_198 : decode cX3_joined 198 = .ok (.goto 4, 3) := by decide +kernel
theorem dX3_joined_201 : decode cX3_joined 201 = .ok (.iconst 0, 1) := by decide +kernel
theorem dX3_joined_202 : decode cX3_joined 202 = .ok (.ireturn, 1) := by decide +kernel
theorem dX3_joined_203 : decode cX3_joined 203 = .ok (.iload_n 1, 1) := by decide +kernel
theorem dX3_joined_204 : decode cX3_joined 204 = .ok (.ifCond .ne 7, 3) := by decide +kernel
theorem dX3_joined_207 : decode cX3_joined 207 = .ok (.iload_n 2, 1) := by decide +kernel
theorem dX3_joined_208 : decode cX3_joined 208 = .ok (.ifCond .eq 7, 3) := by decide +kernel
theorem dX3_joined_211 : decode cX3_joined 211 = .ok (.iconst 1, 1) := by decide +kernel
theorem dX3_joined_212 : decode cX3_joined 212 = .ok (.goto 4, 3) := by decide +kernel
theorem dX3_joined_215 : decode cX3_joined 215 = .ok (.iconst 0, 1) := by decide +kernel
theorem dX3_joined_216 : decode cX3_joined 216 = .ok (.ireturn, 1) := by decide +kernel
theorem dX3_push_0 : decode cX3_push 0 = .ok (.aload_n 0, 1) := by decide +kernel
theorem dX3_push_1 : decode cX3_push 1 = .ok (.getfield 106, 3) := by decide +kernel
theorem dX3_push_4 : decode cX3_push 4 = .ok (.sipush 128, 3) := by decide +kernel
theorem dX3_push_7 : decode cX3_push 7 = .ok (.if_icmp .ge 23, 3) := by decide +kernel
theorem dX3_push_10 : decode cX3_push 10 = .ok (.aload_n 0, 1) := by decide +kernel
theorem dX3_push_11 : decode cX3_push 11 = .ok (.getfield 18, 3) := by decide +kernel
theorem dX3_push_14 : decode cX3_push 14 = .ok (.aload_n 0, 1) := by decide +kernel
theorem dX3_push_15 : decode cX3_push 15 = .ok (.getfield 106, 3) := by decide +kernel
theorem dX3_push_18 : decode cX3_push 18 = .ok (.iload_n 1, 1) := by decide +kernel
theorem dX3_push_19 : decode cX3_push 19 = .ok (.iastore, 1) := by decide +kernel
theorem dX3_push_20 : decode cX3_push 20 = .ok (.aload_n 0, 1) := by decide +kernel
theorem dX3_push_21 : decode cX3_push 21 = .ok (.dup, 1) := by decide +kernel
theorem dX3_push_22 : decode cX3_push 22 = .ok (.getfield 106, 3) := by decide +kernel
theorem dX3_push_25 : decode cX3_push 25 = .ok (.iconst 1, 1) := by decide +kernel
theorem dX3_push_26 : decode cX3_push 26 = .ok (.iadd, 1) := by decide +kernel
theorem dX3_push_27 : decode cX3_push 27 = .ok (.putfield 106, 3) := by decide +kernel
theorem dX3_push_30 : decode cX3_push 30 = .ok (.return_, 1) := by decide +kernel
theorem dX3_pop_0 : decode cX3_pop 0 = .ok (.aload_n 0, 1) := by decide +kernel
theorem dX3_pop_1 : decode cX3_pop 1 = .ok (.getfield 106, 3) := by decide +kernel
theorem dX3_pop_4 : decode cX3_pop 4 = .ok (.ifCond .ne 5, 3) := by decide +kernel
theorem dX3_pop_7 : decode cX3_pop 7 = .ok (.iconst 0, 1) := by decide +kernel
theorem dX3_pop_8 : decode cX3_pop 8 = .ok (.ireturn, 1) := by decide +kernel
theorem dX3_pop_9 : decode cX3_pop 9 = .ok (.aload_n 0, 1) := by decide +kernel
theorem dX3_pop_10 : decode cX3_pop 10 = .ok (.dup, 1) := by decide +kernel
theorem dX3_pop_11 : decode cX3_pop 11 = .ok (.getfield 106, 3) := by decide +kernel
theorem dX3_pop_14 : decode cX3_pop 14 = .ok (.iconst 1, 1) := by decide +kernel
theorem dX3_pop_15 : decode cX3_pop 15 = .ok (.isub, 1) := by decide +kernel
theorem dX3_pop_16 : decode cX3_pop 16 = .ok (.putfield 106, 3) := by decide +kernel
theorem dX3_pop_19 : decode cX3_pop 19 = .ok (.aload_n 0, 1) := by decide +kernel
theorem dX3_pop_20 : decode cX3_pop 20 = .ok (.getfield 18, 3) := by decide +kernel
theorem dX3_pop_23 : decode cX3_pop 23 = .ok (.aload_n 0, 1) := by decide +kernel
theorem dX3_pop_24 : decode cX3_pop 24 = .ok (.getfield 106, 3) := by decide +kernel
theorem dX3_pop_27 : decode cX3_pop 27 = .ok (.iaload, 1) := by decide +kernel
theorem dX3_pop_28 : decode cX3_pop 28 = .ok (.ireturn, 1) := by decide +kernel
