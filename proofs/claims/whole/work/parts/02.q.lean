/-! decode rows of the class (printed rows of the claim) -/
theorem dX0_init_0 : decode cX0_init 0 = .ok (.aload_n 0, 1) := by decide +kernel
theorem dX0_init_1 : decode cX0_init 1 = .ok (.invokespecial 3, 3) := by decide +kernel
theorem dX0_init_4 : decode cX0_init 4 = .ok (.aload_n 0, 1) := by decide +kernel
theorem dX0_init_5 : decode cX0_init 5 = .ok (.new 9, 3) := by decide +kernel
theorem dX0_init_8 : decode cX0_init 8 = .ok (.dup, 1) := by decide +kernel
theorem dX0_init_9 : decode cX0_init 9 = .ok (.invokespecial 11, 3) := by decide +kernel
theorem dX0_init_12 : decode cX0_init 12 = .ok (.putfield 12, 3) := by decide +kernel
theorem dX0_init_15 : decode cX0_init 15 = .ok (.aload_n 0, 1) := by decide +kernel
theorem dX0_init_16 : decode cX0_init 16 = .ok (.bipush 100, 2) := by decide +kernel
theorem dX0_init_18 : decode cX0_init 18 = .ok (.newarray .boolean, 2) := by decide +kernel
theorem dX0_init_20 : decode cX0_init 20 = .ok (.putfield 18, 3) := by decide +kernel
theorem dX0_init_23 : decode cX0_init 23 = .ok (.aload_n 0, 1) := by decide +kernel
theorem dX0_init_24 : decode cX0_init 24 = .ok (.iconst 0, 1) := by decide +kernel
theorem dX0_init_25 : decode cX0_init 25 = .ok (.putfield 22, 3) := by decide +kernel
theorem dX0_init_28 : decode cX0_init 28 = .ok (.aload_n 0, 1) := by decide +kernel
theorem dX0_init_29 : decode cX0_init 29 = .ok (.iconst 0, 1) := by decide +kernel
theorem dX0_init_30 : decode cX0_init 30 = .ok (.putfield 26, 3) := by decide +kernel
theorem dX0_init_33 : decode cX0_init 33 = .ok (.return_, 1) := by decide +kernel
theorem dX0_begin_0 : decode cX0_begin 0 = .ok (.aload_n 0, 1) := by decide +kernel
theorem dX0_begin_1 : decode cX0_begin 1 = .ok (.getfield 12, 3) := by decide +kernel
theorem dX0_begin_4 : decode cX0_begin 4 = .ok (.aload_n 1, 1) := by decide +kernel
theorem dX0_begin_5 : decode cX0_begin 5 = .ok (.invokevirtual 29, 3) := by decide +kernel
theorem dX0_begin_8 : decode cX0_begin 8 = .ok (.aload_n 0, 1) := by decide +kernel
theorem dX0_begin_9 : decode cX0_begin 9 = .ok (.iload_n 2, 1) := by decide +kernel
theorem dX0_begin_10 : decode cX0_begin 10 = .ok (.putfield 22, 3) := by decide +kernel
theorem dX0_begin_13 : decode cX0_begin 13 = .ok (.aload_n 0, 1) := by decide +kernel
theorem dX0_begin_14 : decode cX0_begin 14 = .ok (.iconst 0, 1) := by decide +kernel
theorem dX0_begin_15 : decode cX0_begin 15 = .ok (.putfield 26, 3) := by decide +kernel
theorem dX0_begin_18 : decode cX0_begin 18 = .ok (.return_, 1) := by decide +kernel
theorem dX1_init_0 : decode cX1_init 0 = .ok (.aload_n 0, 1) := by decide +kernel
theorem dX1_init_1 : decode cX1_init 1 = .ok (.invokespecial 3, 3) := by decide +kernel
theorem dX1_init_4 : decode cX1_init 4 = .ok (.aload_n 0, 1) := by decide +kernel
theorem dX1_init_5 : decode cX1_init 5 = .ok (.iconst 0, 1) := by decide +kernel
theorem dX1_init_6 : decode cX1_init 6 = .ok (.putfield 9, 3) := by decide +kernel
theorem dX1_init_9 : decode cX1_init 9 = .ok (.aload_n 0, 1) := by decide +kernel
theorem dX1_init_10 : decode cX1_init 10 = .ok (.bipush 12, 2) := by decide +kernel
theorem dX1_init_12 : decode cX1_init 12 = .ok (.newarray .int, 2) := by decide +kernel
theorem dX1_init_14 : decode cX1_init 14 = .ok (.putfield 15, 3) := by decide +kernel
theorem dX1_init_17 : decode cX1_init 17 = .ok (.aload_n 0, 1) := by decide +kernel
theorem dX1_init_18 : decode cX1_init 18 = .ok (.bipush 12, 2) := by decide +kernel
theorem dX1_init_20 : decode cX1_init 20 = .ok (.newarray .int, 2) := by decide +kernel
theorem dX1_init_22 : decode cX1_init 22 = .ok (.putfield 19, 3) := by decide +kernel
theorem dX1_init_25 : decode cX1_init 25 = .ok (.aload_n 0, 1) := by decide +kernel
theorem dX1_init_26 : decode cX1_init 26 = .ok (.bipush 12, 2) := by decide +kernel
theorem dX1_init_28 : decode cX1_init 28 = .ok (.newarray .int, 2) := by decide +kernel
theorem dX1_init_30 : decode cX1_init 30 = .ok (.putfield 22, 3) := by decide +kernel
theorem dX1_init_33 : decode cX1_init 33 = .ok (.aload_n 0, 1) := by decide +kernel
theorem dX1_init_34 : decode cX1_init 34 = .ok (.bipush 12, 2) := by decide +kernel
theorem dX1_init_36 : decode cX1_init 36 = .ok (.newarray .int, 2) := by decide +kernel
theorem dX1_init_38 : decode cX1_init 38 = .ok (.putfield 25, 3) := by decide +kernel
theorem dX1_init_41 : decode cX1_init 41 = .ok (.aload_n 0, 1) := by decide +kernel
theorem dX1_init_42 : decode cX1_init 42 = .ok (.sipush 300, 3) := by decide +kernel
theorem dX1_init_45 : decode cX1_init 45 = .ok (.newarray .int, 2) := by decide +kernel
theorem dX1_init_47 : decode cX1_init 47 = .ok (.putfield 28, 3) := by decide +kernel
theorem dX1_init_50 : decode cX1_init 50 = .ok (.aload_n 0, 1) := by decide +kernel
theorem dX1_init_51 : decode cX1_init 51 = .ok (.iconst 0, 1) := by decide +kernel
theorem dX1_init_52 : decode cX1_init 52 = .ok (.putfield 31, 3) := by decide +kernel
theorem dX1_init_55 : decode cX1_init 55 = .ok (.return_, 1) := by decide +kernel
theorem dX1_clear_0 : decode cX1_clear 0 = .ok (.aload_n 0, 1) := by decide +kernel
theorem dX1_clear_1 : decode cX1_clear 1 = .ok (.iconst 0, 1) := by decide +kernel
theorem dX1_clear_2 : decode cX1_clear 2 = .ok (.putfield 9, 3) := by decide +kernel
theorem dX1_clear_5 : decode cX1_clear 5 = .ok (.aload_n 0, 1) := by decide +kernel
theorem dX1_clear_6 : decode cX1_clear 6 = .ok (.iconst 0, 1) := by decide +kernel
theorem dX1_clear_7 : decode cX1_clear 7 = .ok (.putfield 31, 3) := by decide +kernel
theorem dX1_clear_10 : decode cX1_clear 10 = .ok (.return_, 1) := by decide +kernel
theorem dX1_beginClause_0 : decode cX1_beginClause 0 = .ok (.aload_n 0, 1) := by decide +kernel
theorem dX1_beginClause_1 : decode cX1_beginClause 1 = .ok (.getfield 9, 3) := by decide +kernel
theorem dX1_beginClause_4 : decode cX1_beginClause 4 = .ok (.bipush 12, 2) := by decide +kernel
theorem dX1_beginClause_6 : decode cX1_beginClause 6 = .ok (.if_icmp .ge 26, 3) := by decide +kernel
theorem dX1_beginClause_9 : decode cX1_beginClause 9 = .ok (.aload_n 0, 1) := by decide +kernel
theorem dX1_beginClause_10 : decode cX1_beginClause 10 = .ok (.getfield 15, 3) := by decide +kernel
theorem dX1_beginClause_13 : decode cX1_beginClause 13 = .ok (.aload_n 0, 1) := by decide +kernel
theorem dX1_beginClause_14 : decode cX1_beginClause 14 = .ok (.getfield 9, 3) := by decide +kernel
theorem dX1_beginClause_17 : decode cX1_beginClause 17 = .ok (.iload_n 1, 1) := by decide +kernel
theorem dX1_beginClause_18 : decode cX1_beginClause 18 = .ok (.iastore, 1) := by decide +kernel
theorem dX1_beginClause_19 : decode cX1_beginClause 19 = .ok (.aload_n 0, 1) := by decide +kernel
theorem dX1_beginClause_20 : decode cX1_beginClause 20 = .ok (.getfield 19, 3) := by decide +kernel
theorem dX1_beginClause_23 : decode cX1_beginClause 23 = .ok (.aload_n 0, 1) := by decide +kernel
theorem dX1_beginClause_24 : decode cX1_beginClause 24 = .ok (.getfield 9, 3) := by decide +kernel
theorem dX1_beginClause_27 : decode cX1_beginClause 27 = .ok (.aload_n 0, 1) := by decide +kernel
theorem dX1_beginClause_28 : decode cX1_beginClause 28 = .ok (.getfield 31, 3) := by decide +kernel
theorem dX1_beginClause_31 : decode cX1_beginClause 31 = .ok (.iastore, 1) := by decide +kernel
theorem dX1_beginClause_32 : decode cX1_beginClause 32 = .ok (.return_, 1) := by decide +kernel
theorem dX1_closeValue_0 : decode cX1_closeValue 0 = .ok (.aload_n 0, 1) := by decide +kernel
theorem dX1_closeValue_1 : decode cX1_closeValue 1 = .ok (.getfield 9, 3) := by decide +kernel
theorem dX1_closeValue_4 : decode cX1_closeValue 4 = .ok (.bipush 12, 2) := by decide +kernel
theorem dX1_closeValue_6 : decode cX1_closeValue 6 = .ok (.if_icmp .ge 16, 3) := by decide +kernel
theorem dX1_closeValue_9 : decode cX1_closeValue 9 = .ok (.aload_n 0, 1) := by decide +kernel
theorem dX1_closeValue_10 : decode cX1_closeValue 10 = .ok (.getfield 22, 3) := by decide +kernel
theorem dX1_closeValue_13 : decode cX1_closeValue 13 = .ok (.aload_n 0, 1) := by decide +kernel
theorem dX1_closeValue_14 : decode cX1_closeValue 14 = .ok (.getfield 9, 3) := by decide +kernel
theorem dX1_closeValue_17 : decode cX1_closeValue 17 = .ok (.aload_n 0, 1) := by decide +kernel
theorem dX1_closeValue_18 : decode cX1_closeValue 18 = .ok (.getfield 31, 3) := by decide +kernel
theorem dX1_closeValue_21 : decode cX1_closeValue 21 = .ok (.iastore, 1) := by decide +kernel
theorem dX1_closeValue_22 : decode cX1_closeValue 22 = .ok (.return_, 1) := by decide +kernel
theorem dX1_closeClause_0 : decode cX1_closeClause 0 = .ok (.aload_n 0, 1) := by decide +kernel
theorem dX1_closeClause_1 : decode cX1_closeClause 1 = .ok (.getfield 9, 3) := by decide +kernel
theorem dX1_closeClause_4 : decode cX1_closeClause 4 = .ok (.bipush 12, 2) := by decide +kernel
theorem dX1_closeClause_6 : decode cX1_closeClause 6 = .ok (.if_icmp .ge 26, 3) := by decide +kernel
theorem dX1_closeClause_9 : decode cX1_closeClause 9 = .ok (.aload_n 0, 1) := by decide +kernel
theorem dX1_closeClause_10 : decode cX1_closeClause 10 = .ok (.getfield 25, 3) := by decide +kernel
theorem dX1_closeClause_13 : decode cX1_closeClause 13 = .ok (.aload_n 0, 1) := by decide +kernel
theorem dX1_closeClause_14 : decode cX1_closeClause 14 = .ok (.getfield 9, 3) := by decide +kernel
theorem dX1_closeClause_17 : decode cX1_closeClause 17 = .ok (.aload_n 0, 1) := by decide +kernel
theorem dX1_closeClause_18 : decode cX1_closeClause 18 = .ok (.getfield 31, 3) := by decide +kernel
theorem dX1_closeClause_21 : decode cX1_closeClause 21 = .ok (.iastore, 1) := by decide +kernel
theorem dX1_closeClause_22 : decode cX1_closeClause 22 = .ok (.aload_n 0, 1) := by decide +kernel
theorem dX1_closeClause_23 : decode cX1_closeClause 23 = .ok (.dup, 1) := by decide +kernel
theorem dX1_closeClause_24 : decode cX1_closeClause 24 = .ok (.getfield 9, 3) := by decide +kernel
theorem dX1_closeClause_27 : decode cX1_closeClause 27 = .ok (.iconst 1, 1) := by decide +kernel
theorem dX1_closeClause_28 : decode cX1_closeClause 28 = .ok (.iadd, 1) := by decide +kernel
theorem dX1_closeClause_29 : decode cX1_closeClause 29 = .ok (.putfield 9, 3) := by decide +kernel
theorem dX1_closeClause_32 : decode cX1_closeClause 32 = .ok (.return_, 1) := by decide +kernel
theorem dX1_put_0 : decode cX1_put 0 = .ok (.aload_n 0, 1) := by decide +kernel
theorem dX1_put_1 : decode cX1_put 1 = .ok (.getfield 31, 3) := by decide +kernel
theorem dX1_put_4 : decode cX1_put 4 = .ok (.sipush 300, 3) := by decide +kernel
theorem dX1_put_7 : decode cX1_put 7 = .ok (.if_icmp .ge 23, 3) := by decide +kernel
theorem dX1_put_10 : decode cX1_put 10 = .ok (.aload_n 0, 1) := by decide +kernel
theorem dX1_put_11 : decode cX1_put 11 = .ok (.getfield 28, 3) := by decide +kernel
theorem dX1_put_14 : decode cX1_put 14 = .ok (.aload_n 0, 1) := by decide +kernel
theorem dX1_put_15 : decode cX1_put 15 = .ok (.getfield 31, 3) := by decide +kernel
theorem dX1_put_18 : decode cX1_put 18 = .ok (.iload_n 1, 1) := by decide +kernel
theorem dX1_put_19 : decode cX1_put 19 = .ok (.iastore, 1) := by decide +kernel
theorem dX1_put_20 : decode cX1_put 20 = .ok (.aload_n 0, 1) := by decide +kernel
theorem dX1_put_21 : decode cX1_put 21 = .ok (.dup, 1) := by decide +kernel
theorem dX1_put_22 : decode cX1_put 22 = .ok (.getfield 31, 3) := by decide +kernel
theorem dX1_put_25 : decode cX1_put 25 = .ok (.iconst 1, 1) := by decide +kernel
theorem dX1_put_26 : decode cX1_put 26 = .ok (.iadd, 1) := by decide +kernel
theorem dX1_put_27 : decode cX1_put 27 = .ok (.putfield 31, 3) := by decide +kernel
theorem dX1_put_30 : decode cX1_put 30 = .ok (.return_, 1) := by decide +kernel
theorem dX1_work_0 : decode cX1_work 0 = .ok (.iconst 0, 1) := by decide +kernel
theorem dX1_work_1 : decode cX1_work 1 = .ok (.istore 5, 2) := by decide +kernel
theorem dX1_work_3 : decode cX1_work 3 = .ok (.iload_n 1, 1) := by decide +kernel
theorem dX1_work_4 : decode cX1_work 4 = .ok (.istore 6, 2) := by decide +kernel
theorem dX1_work_6 : decode cX1_work 6 = .ok (.iload 6, 2) := by decide +kernel
theorem dX1_work_8 : decode cX1_work 8 = .ok (.iload_n 2, 1) := by decide +kernel
theorem dX1_work_9 : decode cX1_work 9 = .ok (.if_icmp .ge 132, 3) := by decide +kernel
theorem dX1_work_12 : decode cX1_work 12 = .ok (.aload_n 0, 1) := by decide +kernel
theorem dX1_work_13 : decode cX1_work 13 = .ok (.getfield 28, 3) := by decide +kernel
theorem dX1_work_16 : decode cX1_work 16 = .ok (.iload 6, 2) := by decide +kernel
theorem dX1_work_18 : decode cX1_work 18 = .ok (.iaload, 1) := by decide +kernel
theorem dX1_work_19 : decode cX1_work 19 = .ok (.istore 7, 2) := by decide +kernel
theorem dX1_work_21 : decode cX1_work 21 = .ok (.iload 7, 2) := by decide +kernel
theorem dX1_work_23 : decode cX1_work 23 = .ok (.sipush 2000, 3) := by decide +kernel
theorem dX1_work_26 : decode cX1_work 26 = .ok (.if_icmp .ge 43, 3) := by decide +kernel
theorem dX1_work_29 : decode cX1_work 29 = .ok (.iload 5, 2) := by decide +kernel
theorem dX1_work_31 : decode cX1_work 31 = .ok (.aload 4, 2) := by decide +kernel
theorem dX1_work_33 : decode cX1_work 33 = .ok (.arraylength, 1) := by decide +kernel
theorem dX1_work_34 : decode cX1_work 34 = .ok (.if_icmp .ge 101, 3) := by decide +kernel
theorem dX1_work_37 : decode cX1_work 37 = .ok (.aload 4, 2) := by decide +kernel
theorem dX1_work_39 : decode cX1_work 39 = .ok (.iload 5, 2) := by decide +kernel
theorem dX1_work_41 : decode cX1_work 41 = .ok (.iload 7, 2) := by decide +kernel
theorem dX1_work_43 : decode cX1_work 43 = .ok (.sipush 1000, 3) := by decide +kernel
theorem dX1_work_46 : decode cX1_work 46 = .ok (.if_icmp .ge 8, 3) := by decide +kernel
theorem dX1_work_49 : decode cX1_work 49 = .ok (.iload 7, 2) := by decide +kernel
theorem dX1_work_51 : decode cX1_work 51 = .ok (.goto 11, 3) := by decide +kernel
theorem dX1_work_54 : decode cX1_work 54 = .ok (.aload_n 3, 1) := by decide +kernel
theorem dX1_work_55 : decode cX1_work 55 = .ok (.iload 7, 2) := by decide +kernel
theorem dX1_work_57 : decode cX1_work 57 = .ok (.sipush 1000, 3) := by decide +kernel
theorem dX1_work_60 : decode cX1_work 60 = .ok (.isub, 1) := by decide +kernel
theorem dX1_work_61 : decode cX1_work 61 = .ok (.iaload, 1) := by decide +kernel
theorem dX1_work_62 : decode cX1_work 62 = .ok (.iastore, 1) := by decide +kernel
theorem dX1_work_63 : decode cX1_work 63 = .ok (.iinc 5 1, 3) := by decide +kernel
theorem dX1_work_66 : decode cX1_work 66 = .ok (.goto 69, 3) := by decide +kernel
theorem dX1_work_69 : decode cX1_work 69 = .ok (.iload 7, 2) := by decide +kernel
theorem dX1_work_71 : decode cX1_work 71 = .ok (.sipush 2011, 3) := by decide +kernel
theorem dX1_work_74 : decode cX1_work 74 = .ok (.if_icmp .ne 28, 3) := by decide +kernel
theorem dX1_work_77 : decode cX1_work 77 = .ok (.iload 5, 2) := by decide +kernel
theorem dX1_work_79 : decode cX1_work 79 = .ok (.iconst 1, 1) := by decide +kernel
theorem dX1_work_80 : decode cX1_work 80 = .ok (.if_icmp .lt 55, 3) := by decide +kernel
theorem dX1_work_83 : decode cX1_work 83 = .ok (.aload 4, 2) := by decide +kernel
theorem dX1_work_85 : decode cX1_work 85 = .ok (.iload 5, 2) := by decide +kernel
theorem dX1_work_87 : decode cX1_work 87 = .ok (.iconst 1, 1) := by decide +kernel
theorem dX1_work_88 : decode cX1_work 88 = .ok (.isub, 1) := by decide +kernel
theorem dX1_work_89 : decode cX1_work 89 = .ok (.iconst 1, 1) := by decide +kernel
theorem dX1_work_90 : decode cX1_work 90 = .ok (.aload 4, 2) := by decide +kernel
theorem dX1_work_92 : decode cX1_work 92 = .ok (.iload 5, 2) := by decide +kernel
theorem dX1_work_94 : decode cX1_work 94 = .ok (.iconst 1, 1) := by decide +kernel
theorem dX1_work_95 : decode cX1_work 95 = .ok (.isub, 1) := by decide +kernel
theorem dX1_work_96 : decode cX1_work 96 = .ok (.iaload, 1) := by decide +kernel
theorem dX1_work_97 : decode cX1_work 97 = .ok (.isub, 1) := by decide +kernel
theorem dX1_work_98 : decode cX1_work 98 = .ok (.iastore, 1) := by decide +kernel
theorem dX1_work_99 : decode cX1_work 99 = .ok (.goto 36, 3) := by decide +kernel
theorem dX1_work_102 : decode cX1_work 102 = .ok (.iload 5, 2) := by decide +kernel
theorem dX1_work_104 : decode cX1_work 104 = .ok (.iconst 2, 1) := by decide +kernel
theorem dX1_work_105 : decode cX1_work 105 = .ok (.if_icmp .lt 30, 3) := by decide +kernel
theorem dX1_work_108 : decode cX1_work 108 = .ok (.iinc 5 (-1), 3) := by decide +kernel
theorem dX1_work_111 : decode cX1_work 111 = .ok (.aload 4, 2) := by decide +kernel
theorem dX1_work_113 : decode cX1_work 113 = .ok (.iload 5, 2) := by decide +kernel
theorem dX1_work_115 : decode cX1_work 115 = .ok (.iconst 1, 1) := by decide +kernel
theorem dX1_work_116 : decode cX1_work 116 = .ok (.isub, 1) := by decide +kernel
theorem dX1_work_117 : decode cX1_work 117 = .ok (.iload 7, 2) := by decide +kernel
theorem dX1_work_119 : decode cX1_work 119 = .ok (.aload 4, 2) := by decide +kernel
theorem dX1_work_121 : decode cX1_work 121 = .ok (.iload 5, 2) := by decide +kernel
theorem dX1_work_123 : decode cX1_work 123 = .ok (.iconst 1, 1) := by decide +kernel
theorem dX1_work_124 : decode cX1_work 124 = .ok (.isub, 1) := by decide +kernel
theorem dX1_work_125 : decode cX1_work 125 = .ok (.iaload, 1) := by decide +kernel
theorem dX1_work_126 : decode cX1_work 126 = .ok (.aload 4, 2) := by decide +kernel
theorem dX1_work_128 : decode cX1_work 128 = .ok (.iload 5, 2) := by decide +kernel
theorem dX1_work_130 : decode cX1_work 130 = .ok (.iaload, 1) := by decide +kernel
theorem dX1_work_131 : decode cX1_work 131 = .ok (.invokestatic 34, 3) := by decide +kernel
theorem dX1_work_134 : decode cX1_work 134 = .ok (.iastore, 1) := by decide +kernel
theorem dX1_work_135 : decode cX1_work 135 = .ok (.iinc 6 1, 3) := by decide +kernel
theorem dX1_work_138 : decode cX1_work 138 = .ok (.goto (-132), 3) := by decide +kernel
theorem dX1_work_141 : decode cX1_work 141 = .ok (.iload 5, 2) := by decide +kernel
theorem dX1_work_143 : decode cX1_work 143 = .ok (.ifCond .le 10, 3) := by decide +kernel
theorem dX1_work_146 : decode cX1_work 146 = .ok (.aload 4, 2) := by decide +kernel
theorem dX1_work_148 : decode cX1_work 148 = .ok (.iconst 0, 1) := by decide +kernel
theorem dX1_work_149 : decode cX1_work 149 = .ok (.iaload, 1) := by decide +kernel
theorem dX1_work_150 : decode cX1_work 150 = .ok (.goto 4, 3) := by decide +kernel
theorem dX1_work_153 : decode cX1_work 153 = .ok (.iconst 0, 1) := by decide +kernel
theorem dX1_work_154 : decode cX1_work 154 = .ok (.ireturn, 1) := by decide +kernel
theorem dX1_act_0 : decode cX1_act 0 = .ok (.iload_n 0, 1) := by decide +kernel
theorem dX1_act_1 : decode cX1_act 1 = .ok (.tableswitch 138 2000 2009 #[55, 59, 63, 67, 79, 90, 101, 112, 123, 134], 55) := by decide +kernel
theorem dX1_act_56 : decode cX1_act 56 = .ok (.iload_n 1, 1) := by decide +kernel
theorem dX1_act_57 : decode cX1_act 57 = .ok (.iload_n 2, 1) := by decide +kernel
theorem dX1_act_58 : decode cX1_act 58 = .ok (.iadd, 1) := by decide +kernel
theorem dX1_act_59 : decode cX1_act 59 = .ok (.ireturn, 1) := by decide +kernel
theorem dX1_act_60 : decode cX1_act 60 = .ok (.iload_n 1, 1) := by decide +kernel
theorem dX1_act_61 : decode cX1_act 61 = .ok (.iload_n 2, 1) := by decide +kernel
theorem dX1_act_62 : decode cX1_act 62 = .ok (.isub, 1) := by decide +kernel
theorem dX1_act_63 : decode cX1_act 63 = .ok (.ireturn, 1) := by decide +kernel
theorem dX1_act_64 : decode cX1_act 64 = .ok (.iload_n 1, 1) := by decide +kernel
theorem dX1_act_65 : decode cX1_act 65 = .ok (.iload_n 2, 1) := by decide +kernel
theorem dX1_act_66 : decode cX1_act 66 = .ok (.imul, 1) := by decide +kernel
theorem dX1_act_67 : decode cX1_act 67 = .ok (.ireturn, 1) := by decide +kernel
theorem dX1_act_68 : decode cX1_act 68 = .ok (.iload_n 2, 1) := by decide +kernel
theorem dX1_act_69 : decode cX1_act 69 = .ok (.ifCond .ne 7, 3) := by decide +kernel
theorem dX1_act_72 : decode cX1_act 72 = .ok (.iconst 0, 1) := by decide +kernel
theorem dX1_act_73 : decode cX1_act 73 = .ok (.goto 6, 3) := by decide +kernel
theorem dX1_act_76 : decode cX1_act 76 = .ok (.iload_n 1, 1) := by decide +kernel
theorem dX1_act_77 : decode cX1_act 77 = .ok (.iload_n 2, 1) := by decide +kernel
theorem dX1_act_78 : decode cX1_act 78 = .ok (.idiv, 1) := by decide +kernel
theorem dX1_act_79 : decode cX1_act 79 = .ok (.ireturn, 1) := by decide +kernel
theorem dX1_act_80 : decode cX1_act 80 = .ok (.iload_n 1, 1) := by decide +kernel
theorem dX1_act_81 : decode cX1_act 81 = .ok (.iload_n 2, 1) := by decide +kernel
theorem dX1_act_82 : decode cX1_act 82 = .ok (.if_icmp .ge 7, 3) := by decide +kernel
theorem dX1_act_85 : decode cX1_act 85 = .ok (.iload_n 1, 1) := by decide +kernel
theorem dX1_act_86 : decode cX1_act 86 = .ok (.goto 4, 3) := by decide +kernel
theorem dX1_act_89 : decode cX1_act 89 = .ok (.iload_n 2, 1) := by decide +kernel
theorem dX1_act_90 : decode cX1_act 90 = .ok (.ireturn, 1) := by decide +kernel
theorem dX1_act_91 : decode cX1_act 91 = .ok (.iload_n 1, 1) := by decide +kernel
theorem dX1_act_92 : decode cX1_act 92 = .ok (.iload_n 2, 1) := by decide +kernel
theorem dX1_act_93 : decode cX1_act 93 = .ok (.if_icmp .le 7, 3) := by decide +kernel
theorem dX1_act_96 : decode cX1_act 96 = .ok (.iload_n 1, 1) := by decide +kernel
theorem dX1_act_97 : decode cX1_act 97 = .ok (.goto 4, 3) := by decide +kernel
theorem dX1_act_100 : decode cX1_act 100 = .ok (.iload_n 2, 1) := by decide +kernel
theorem dX1_act_101 : decode cX1_act 101 = .ok (.ireturn, 1) := by decide +kernel
theorem dX1_act_102 : decode cX1_act 102 = .ok (.iload_n 1, 1) := by decide +kernel
theorem dX1_act_103 : decode cX1_act 103 = .ok (.iload_n 2, 1) := by decide +kernel
theorem dX1_act_104 : decode cX1_act 104 = .ok (.if_icmp .ge 7, 3) := by decide +kernel
theorem dX1_act_107 : decode cX1_act 107 = .ok (.iconst 1, 1) := by decide +kernel
theorem dX1_act_108 : decode cX1_act 108 = .ok (.goto 4, 3) := by decide +kernel
theorem dX1_act_111 : decode cX1_act 111 = .ok (.iconst 0, 1) := by decide +kernel
theorem dX1_act_112 : decode cX1_act 112 = .ok (.ireturn, 1) := by decide +kernel
theorem dX1_act_113 : decode cX1_act 113 = .ok (.iload_n 1, 1) := by decide +kernel
theorem dX1_act_114 : decode cX1_act 114 = .ok (.iload_n 2, 1) := by decide +kernel
theorem dX1_act_115 : decode cX1_act 115 = .ok (.if_icmp .le 7, 3) := by decide +kernel
theorem dX1_act_118 : decode cX1_act 118 = .ok (.iconst 1, 1) := by decide +kernel
theorem dX1_act_119 : decode cX1_act 119 = .ok (.goto 4, 3) := by decide +kernel
theorem dX1_act_122 : decode cX1_act 122 = .ok (.iconst 0, 1) := by decide +kernel
theorem dX1_act_123 : decode cX1_act 123 = .ok (.ireturn, 1) := by decide +kernel
theorem dX1_act_124 : decode cX1_act 124 = .ok (.iload_n 1, 1) := by decide +kernel
theorem dX1_act_125 : decode cX1_act 125 = .ok (.iload_n 2, 1) := by decide +kernel
theorem dX1_act_126 : decode cX1_act 126 = .ok (.if_icmp .ne 7, 3) := by decide +kernel
theorem dX1_act_129 : decode cX1_act 129 = .ok (.iconst 1, 1) := by decide +kernel
theorem dX1_act_130 : decode cX1_act 130 = .ok (.goto 4, 3) := by decide +kernel
theorem dX1_act_133 : decode cX1_act 133 = .ok (.iconst 0, 1) := by decide +kernel
theorem dX1_act_134 : decode cX1_act 134 = .ok (.ireturn, 1) := by decide +kernel
theorem dX1_act_135 : decode cX1_act 135 = .ok (.iload_n 1, 1) := by decide +kernel
theorem dX1_act_136 : decode cX1_act 136 = .ok (.iload_n 2, 1) := by decide +kernel
theorem dX1_act_137 : decode cX1_act 137 = .ok (.iand, 1) := by decide +kernel
theorem dX1_act_138 : decode cX1_act 138 = .ok (.ireturn, 1) := by decide +kernel
theorem dX1_act_139 : decode cX1_act 139 = .ok (.iload_n 1, 1) := by decide +kernel
theorem dX1_act_140 : decode cX1_act 140 = .ok (.iload_n 2, 1) := by decide +kernel
theorem dX1_act_141 : decode cX1_act 141 = .ok (.ior, 1) := by decide +kernel
theorem dX1_act_142 : decode cX1_act 142 = .ok (.ireturn, 1) := by decide +kernel
theorem dX2_init_0 : decode cX2_init 0 = .ok (.aload_n 0, 1) := by decide +kernel
theorem dX2_init_1 : decode cX2_init 1 = .ok (.invokespecial 3, 3) := by decide +kernel
theorem dX2_init_4 : decode cX2_init 4 = .ok (.aload_n 0, 1) := by decide +kernel
theorem dX2_init_5 : decode cX2_init 5 = .ok (.aconst_null, 1) := by decide +kernel
theorem dX2_init_6 : decode cX2_init 6 = .ok (.putfield 9, 3) := by decide +kernel
theorem dX2_init_9 : decode cX2_init 9 = .ok (.aload_n 0, 1) := by decide +kernel
theorem dX2_init_10 : decode cX2_init 10 = .ok (.iconst 0, 1) := by decide +kernel
theorem dX2_init_11 : decode cX2_init 11 = .ok (.putfield 15, 3) := by decide +kernel
theorem dX2_init_14 : decode cX2_init 14 = .ok (.aload_n 0, 1) := by decide +kernel
theorem dX2_init_15 : decode cX2_init 15 = .ok (.aconst_null, 1) := by decide +kernel
theorem dX2_init_16 : decode cX2_init 16 = .ok (.putfield 19, 3) := by decide +kernel
theorem dX2_init_19 : decode cX2_init 19 = .ok (.aload_n 0, 1) := by decide +kernel
theorem dX2_init_20 : decode cX2_init 20 = .ok (.iconst 0, 1) := by decide +kernel
theorem dX2_init_21 : decode cX2_init 21 = .ok (.putfield 23, 3) := by decide +kernel
theorem dX2_init_24 : decode cX2_init 24 = .ok (.aload_n 0, 1) := by decide +kernel
theorem dX2_init_25 : decode cX2_init 25 = .ok (.iconst 0, 1) := by decide +kernel
theorem dX2_init_26 : decode cX2_init 26 = .ok (.putfield 26, 3) := by decide +kernel
theorem dX2_init_29 : decode cX2_init 29 = .ok (.aload_n 0, 1) := by decide +kernel
theorem dX2_init_30 : decode cX2_init 30 = .ok (.iconst 0, 1) := by decide +kernel
theorem dX2_init_31 : decode cX2_init 31 = .ok (.putfield 29, 3) := by decide +kernel
theorem dX2_init_34 : decode cX2_init 34 = .ok (.aload_n 0, 1) := by decide +kernel
theorem dX2_init_35 : decode cX2_init 35 = .ok (.iconst 0, 1) := by decide +kernel
theorem dX2_init_36 : decode cX2_init 36 = .ok (.putfield 32, 3) := by decide +kernel
theorem dX2_init_39 : decode cX2_init 39 = .ok (.aload_n 0, 1) := by decide +kernel
theorem dX2_init_40 : decode cX2_init 40 = .ok (.iconst 0, 1) := by decide +kernel
theorem dX2_init_41 : decode cX2_init 41 = .ok (.putfield 35, 3) := by decide +kernel
theorem dX2_init_44 : decode cX2_init 44 = .ok (.aload_n 0, 1) := by decide +kernel
theorem dX2_init_45 : decode cX2_init 45 = .ok (.iconst (-1), 1) := by decide +kernel
theorem dX2_init_46 : decode cX2_init 46 = .ok (.putfield 38, 3) := by decide +kernel
theorem dX2_init_49 : decode cX2_init 49 = .ok (.return_, 1) := by decide +kernel
theorem dX2_findFault_0 : decode cX2_findFault 0 = .ok (.aload_n 0, 1) := by decide +kernel
theorem dX2_findFault_1 : decode cX2_findFault 1 = .ok (.aload_n 1, 1) := by decide +kernel
theorem dX2_findFault_2 : decode cX2_findFault 2 = .ok (.putfield 9, 3) := by decide +kernel
theorem dX2_findFault_5 : decode cX2_findFault 5 = .ok (.aload_n 0, 1) := by decide +kernel
theorem dX2_findFault_6 : decode cX2_findFault 6 = .ok (.iload_n 2, 1) := by decide +kernel
theorem dX2_findFault_7 : decode cX2_findFault 7 = .ok (.aload_n 1, 1) := by decide +kernel
theorem dX2_findFault_8 : decode cX2_findFault 8 = .ok (.arraylength, 1) := by decide +kernel
theorem dX2_findFault_9 : decode cX2_findFault 9 = .ok (.invokestatic 41, 3) := by decide +kernel
theorem dX2_findFault_12 : decode cX2_findFault 12 = .ok (.putfield 15, 3) := by decide +kernel
theorem dX2_findFault_15 : decode cX2_findFault 15 = .ok (.aload_n 0, 1) := by decide +kernel
theorem dX2_findFault_16 : decode cX2_findFault 16 = .ok (.aload_n 3, 1) := by decide +kernel
theorem dX2_findFault_17 : decode cX2_findFault 17 = .ok (.putfield 19, 3) := by decide +kernel
theorem dX2_findFault_20 : decode cX2_findFault 20 = .ok (.aload_n 0, 1) := by decide +kernel
theorem dX2_findFault_21 : decode cX2_findFault 21 = .ok (.getfield 19, 3) := by decide +kernel
theorem dX2_findFault_24 : decode cX2_findFault 24 = .ok (.invokevirtual 47, 3) := by decide +kernel
theorem dX2_findFault_27 : decode cX2_findFault 27 = .ok (.aload_n 0, 1) := by decide +kernel
theorem dX2_findFault_28 : decode cX2_findFault 28 = .ok (.iconst 0, 1) := by decide +kernel
theorem dX2_findFault_29 : decode cX2_findFault 29 = .ok (.putfield 29, 3) := by decide +kernel
theorem dX2_findFault_32 : decode cX2_findFault 32 = .ok (.aload_n 0, 1) := by decide +kernel
theorem dX2_findFault_33 : decode cX2_findFault 33 = .ok (.iconst 0, 1) := by decide +kernel
theorem dX2_findFault_34 : decode cX2_findFault 34 = .ok (.putfield 35, 3) := by decide +kernel
theorem dX2_findFault_37 : decode cX2_findFault 37 = .ok (.aload_n 0, 1) := by decide +kernel
theorem dX2_findFault_38 : decode cX2_findFault 38 = .ok (.iconst (-1), 1) := by decide +kernel
theorem dX2_findFault_39 : decode cX2_findFault 39 = .ok (.putfield 38, 3) := by decide +kernel
theorem dX2_findFault_42 : decode cX2_findFault 42 = .ok (.aload_n 0, 1) := by decide +kernel
theorem dX2_findFault_43 : decode cX2_findFault 43 = .ok (.invokevirtual 52, 3) := by decide +kernel
theorem dX2_findFault_46 : decode cX2_findFault 46 = .ok (.iconst 0, 1) := by decide +kernel
theorem dX2_findFault_47 : decode cX2_findFault 47 = .ok (.istore 4, 2) := by decide +kernel
theorem dX2_findFault_49 : decode cX2_findFault 49 = .ok (.iload 4, 2) := by decide +kernel
theorem dX2_findFault_51 : decode cX2_findFault 51 = .ok (.bipush 12, 2) := by decide +kernel
theorem dX2_findFault_53 : decode cX2_findFault 53 = .ok (.if_icmp .gt 28, 3) := by decide +kernel
theorem dX2_findFault_56 : decode cX2_findFault 56 = .ok (.aload_n 0, 1) := by decide +kernel
theorem dX2_findFault_57 : decode cX2_findFault 57 = .ok (.getfield 23, 3) := by decide +kernel
theorem dX2_findFault_60 : decode cX2_findFault 60 = .ok (.ifCond .eq 21, 3) := by decide +kernel
theorem dX2_findFault_63 : decode cX2_findFault 63 = .ok (.aload_n 0, 1) := by decide +kernel
theorem dX2_findFault_64 : decode cX2_findFault 64 = .ok (.iload 4, 2) := by decide +kernel
theorem dX2_findFault_66 : decode cX2_findFault 66 = .ok (.invokevirtual 55, 3) := by decide +kernel
theorem dX2_findFault_69 : decode cX2_findFault 69 = .ok (.ifCond .ne 6, 3) := by decide +kernel
theorem dX2_findFault_72 : decode cX2_findFault 72 = .ok (.goto 9, 3) := by decide +kernel
theorem dX2_findFault_75 : decode cX2_findFault 75 = .ok (.iinc 4 1, 3) := by decide +kernel
theorem dX2_findFault_78 : decode cX2_findFault 78 = .ok (.goto (-29), 3) := by decide +kernel
theorem dX2_findFault_81 : decode cX2_findFault 81 = .ok (.aload_n 0, 1) := by decide +kernel
theorem dX2_findFault_82 : decode cX2_findFault 82 = .ok (.getfield 35, 3) := by decide +kernel
theorem dX2_findFault_85 : decode cX2_findFault 85 = .ok (.ireturn, 1) := by decide +kernel
theorem dX2_refuse_0 : decode cX2_refuse 0 = .ok (.aload_n 0, 1) := by decide +kernel
theorem dX2_refuse_1 : decode cX2_refuse 1 = .ok (.iload_n 1, 1) := by decide +kernel
theorem dX2_refuse_2 : decode cX2_refuse 2 = .ok (.putfield 35, 3) := by decide +kernel
theorem dX2_refuse_5 : decode cX2_refuse 5 = .ok (.aload_n 0, 1) := by decide +kernel
theorem dX2_refuse_6 : decode cX2_refuse 6 = .ok (.aload_n 0, 1) := by decide +kernel
theorem dX2_refuse_7 : decode cX2_refuse 7 = .ok (.getfield 26, 3) := by decide +kernel
theorem dX2_refuse_10 : decode cX2_refuse 10 = .ok (.putfield 38, 3) := by decide +kernel
theorem dX2_refuse_13 : decode cX2_refuse 13 = .ok (.iconst 0, 1) := by decide +kernel
theorem dX2_refuse_14 : decode cX2_refuse 14 = .ok (.ireturn, 1) := by decide +kernel
theorem dX2_step_0 : decode cX2_step 0 = .ok (.aload_n 0, 1) := by decide +kernel
theorem dX2_step_1 : decode cX2_step 1 = .ok (.aload_n 0, 1) := by decide +kernel
theorem dX2_step_2 : decode cX2_step 2 = .ok (.getfield 29, 3) := by decide +kernel
theorem dX2_step_5 : decode cX2_step 5 = .ok (.putfield 26, 3) := by decide +kernel
theorem dX2_step_8 : decode cX2_step 8 = .ok (.aload_n 0, 1) := by decide +kernel
theorem dX2_step_9 : decode cX2_step 9 = .ok (.getfield 26, 3) := by decide +kernel
theorem dX2_step_12 : decode cX2_step 12 = .ok (.aload_n 0, 1) := by decide +kernel
theorem dX2_step_13 : decode cX2_step 13 = .ok (.getfield 15, 3) := by decide +kernel
theorem dX2_step_16 : decode cX2_step 16 = .ok (.if_icmp .ge 30, 3) := by decide +kernel
theorem dX2_step_19 : decode cX2_step 19 = .ok (.aload_n 0, 1) := by decide +kernel
theorem dX2_step_20 : decode cX2_step 20 = .ok (.getfield 9, 3) := by decide +kernel
theorem dX2_step_23 : decode cX2_step 23 = .ok (.aload_n 0, 1) := by decide +kernel
theorem dX2_step_24 : decode cX2_step 24 = .ok (.getfield 26, 3) := by decide +kernel
theorem dX2_step_27 : decode cX2_step 27 = .ok (.iaload, 1) := by decide +kernel
theorem dX2_step_28 : decode cX2_step 28 = .ok (.bipush 32, 2) := by decide +kernel
theorem dX2_step_30 : decode cX2_step 30 = .ok (.if_icmp .ne 16, 3) := by decide +kernel
theorem dX2_step_33 : decode cX2_step 33 = .ok (.aload_n 0, 1) := by decide +kernel
theorem dX2_step_34 : decode cX2_step 34 = .ok (.dup, 1) := by decide +kernel
theorem dX2_step_35 : decode cX2_step 35 = .ok (.getfield 26, 3) := by decide +kernel
theorem dX2_step_38 : decode cX2_step 38 = .ok (.iconst 1, 1) := by decide +kernel
theorem dX2_step_39 : decode cX2_step 39 = .ok (.iadd, 1) := by decide +kernel
theorem dX2_step_40 : decode cX2_step 40 = .ok (.putfield 26, 3) := by decide +kernel
theorem dX2_step_43 : decode cX2_step 43 = .ok (.goto (-35), 3) := by decide +kernel
theorem dX2_step_46 : decode cX2_step 46 = .ok (.aload_n 0, 1) := by decide +kernel
theorem dX2_step_47 : decode cX2_step 47 = .ok (.aload_n 0, 1) := by decide +kernel
theorem dX2_step_48 : decode cX2_step 48 = .ok (.getfield 26, 3) := by decide +kernel
theorem dX2_step_51 : decode cX2_step 51 = .ok (.putfield 29, 3) := by decide +kernel
theorem dX2_step_54 : decode cX2_step 54 = .ok (.aload_n 0, 1) := by decide +kernel
theorem dX2_step_55 : decode cX2_step 55 = .ok (.getfield 26, 3) := by decide +kernel
theorem dX2_step_58 : decode cX2_step 58 = .ok (.aload_n 0, 1) := by decide +kernel
theorem dX2_step_59 : decode cX2_step 59 = .ok (.getfield 15, 3) := by decide +kernel
theorem dX2_step_62 : decode cX2_step 62 = .ok (.if_icmp .lt 11, 3) := by decide +kernel
theorem dX2_step_65 : decode cX2_step 65 = .ok (.aload_n 0, 1) := by decide +kernel
theorem dX2_step_66 : decode cX2_step 66 = .ok (.iconst 0, 1) := by decide +kernel
theorem dX2_step_67 : decode cX2_step 67 = .ok (.putfield 23, 3) := by decide +kernel
theorem dX2_step_70 : decode cX2_step 70 = .ok (.goto 175, 3) := by decide +kernel
theorem dX2_step_73 : decode cX2_step 73 = .ok (.aload_n 0, 1) := by decide +kernel
theorem dX2_step_74 : decode cX2_step 74 = .ok (.getfield 9, 3) := by decide +kernel
theorem dX2_step_77 : decode cX2_step 77 = .ok (.aload_n 0, 1) := by decide +kernel
theorem dX2_step_78 : decode cX2_step 78 = .ok (.getfield 26, 3) := by decide +kernel
theorem dX2_step_81 : decode cX2_step 81 = .ok (.iaload, 1) := by decide +kernel
theorem dX2_step_82 : decode cX2_step 82 = .ok (.invokestatic 59, 3) := by decide +kernel
theorem dX2_step_85 : decode cX2_step 85 = .ok (.ifCond .eq 86, 3) := by decide +kernel
theorem dX2_step_88 : decode cX2_step 88 = .ok (.aload_n 0, 1) := by decide +kernel
theorem dX2_step_89 : decode cX2_step 89 = .ok (.iconst 1, 1) := by decide +kernel
theorem dX2_step_90 : decode cX2_step 90 = .ok (.putfield 23, 3) := by decide +kernel
theorem dX2_step_93 : decode cX2_step 93 = .ok (.aload_n 0, 1) := by decide +kernel
theorem dX2_step_94 : decode cX2_step 94 = .ok (.iconst 0, 1) := by decide +kernel
theorem dX2_step_95 : decode cX2_step 95 = .ok (.putfield 32, 3) := by decide +kernel
theorem dX2_step_98 : decode cX2_step 98 = .ok (.aload_n 0, 1) := by decide +kernel
theorem dX2_step_99 : decode cX2_step 99 = .ok (.getfield 29, 3) := by decide +kernel
theorem dX2_step_102 : decode cX2_step 102 = .ok (.aload_n 0, 1) := by decide +kernel
theorem dX2_step_103 : decode cX2_step 103 = .ok (.getfield 15, 3) := by decide +kernel
theorem dX2_step_106 : decode cX2_step 106 = .ok (.if_icmp .ge 139, 3) := by decide +kernel
theorem dX2_step_109 : decode cX2_step 109 = .ok (.aload_n 0, 1) := by decide +kernel
theorem dX2_step_110 : decode cX2_step 110 = .ok (.getfield 9, 3) := by decide +kernel
theorem dX2_step_113 : decode cX2_step 113 = .ok (.aload_n 0, 1) := by decide +kernel
theorem dX2_step_114 : decode cX2_step 114 = .ok (.getfield 29, 3) := by decide +kernel
theorem dX2_step_117 : decode cX2_step 117 = .ok (.iaload, 1) := by decide +kernel
theorem dX2_step_118 : decode cX2_step 118 = .ok (.invokestatic 59, 3) := by decide +kernel
theorem dX2_step_121 : decode cX2_step 121 = .ok (.ifCond .eq 124, 3) := by decide +kernel
theorem dX2_step_124 : decode cX2_step 124 = .ok (.aload_n 0, 1) := by decide +kernel
theorem dX2_step_125 : decode cX2_step 125 = .ok (.getfield 32, 3) := by decide +kernel
theorem dX2_step_128 : decode cX2_step 128 = .ok (.sipush 999, 3) := by decide +kernel
theorem dX2_step_131 : decode cX2_step 131 = .ok (.if_icmp .gt 27, 3) := by decide +kernel
theorem dX2_step_134 : decode cX2_step 134 = .ok (.aload_n 0, 1) := by decide +kernel
theorem dX2_step_135 : decode cX2_step 135 = .ok (.aload_n 0, 1) := by decide +kernel
theorem dX2_step_136 : decode cX2_step 136 = .ok (.getfield 32, 3) := by decide +kernel
theorem dX2_step_139 : decode cX2_step 139 = .ok (.bipush 10, 2) := by decide +kernel
theorem dX2_step_141 : decode cX2_step 141 = .ok (.imul, 1) := by decide +kernel
theorem dX2_step_142 : decode cX2_step 142 = .ok (.aload_n 0, 1) := by decide +kernel
theorem dX2_step_143 : decode cX2_step 143 = .ok (.getfield 9, 3) := by decide +kernel
theorem dX2_step_146 : decode cX2_step 146 = .ok (.aload_n 0, 1) := by decide +kernel
theorem dX2_step_147 : decode cX2_step 147 = .ok (.getfield 29, 3) := by decide +kernel
theorem dX2_step_150 : decode cX2_step 150 = .ok (.iaload, 1) := by decide +kernel
theorem dX2_step_151 : decode cX2_step 151 = .ok (.iadd, 1) := by decide +kernel
theorem dX2_step_152 : decode cX2_step 152 = .ok (.bipush 48, 2) := by decide +kernel
theorem dX2_step_154 : decode cX2_step 154 = .ok (.isub, 1) := by decide +kernel
theorem dX2_step_155 : decode cX2_step 155 = .ok (.putfield 32, 3) := by decide +kernel
theorem dX2_step_158 : decode cX2_step 158 = .ok (.aload_n 0, 1) := by decide +kernel
theorem dX2_step_159 : decode cX2_step 159 = .ok (.dup, 1) := by decide +kernel
theorem dX2_step_160 : decode cX2_step 160 = .ok (.getfield 29, 3) := by decide +kernel
theorem dX2_step_163 : decode cX2_step 163 = .ok (.iconst 1, 1) := by decide +kernel
theorem dX2_step_164 : decode cX2_step 164 = .ok (.iadd, 1) := by decide +kernel
theorem dX2_step_165 : decode cX2_step 165 = .ok (.putfield 29, 3) := by decide +kernel
theorem dX2_step_168 : decode cX2_step 168 = .ok (.goto (-70), 3) := by decide +kernel
theorem dX2_step_171 : decode cX2_step 171 = .ok (.aload_n 0, 1) := by decide +kernel
theorem dX2_step_172 : decode cX2_step 172 = .ok (.getfield 9, 3) := by decide +kernel
theorem dX2_step_175 : decode cX2_step 175 = .ok (.aload_n 0, 1) := by decide +kernel
theorem dX2_step_176 : decode cX2_step 176 = .ok (.getfield 26, 3) := by decide +kernel
theorem dX2_step_179 : decode cX2_step 179 = .ok (.iaload, 1) := by decide +kernel
theorem dX2_step_180 : decode cX2_step 180 = .ok (.invokestatic 62, 3) := by decide +kernel
theorem dX2_step_183 : decode cX2_step 183 = .ok (.ifCond .eq 47, 3) := by decide +kernel
theorem dX2_step_186 : decode cX2_step 186 = .ok (.aload_n 0, 1) := by decide +kernel
theorem dX2_step_187 : decode cX2_step 187 = .ok (.iconst 2, 1) := by decide +kernel
theorem dX2_step_188 : decode cX2_step 188 = .ok (.putfield 23, 3) := by decide +kernel
theorem dX2_step_191 : decode cX2_step 191 = .ok (.aload_n 0, 1) := by decide +kernel
theorem dX2_step_192 : decode cX2_step 192 = .ok (.getfield 29, 3) := by decide +kernel
theorem dX2_step_195 : decode cX2_step 195 = .ok (.aload_n 0, 1) := by decide +kernel
theorem dX2_step_196 : decode cX2_step 196 = .ok (.getfield 15, 3) := by decide +kernel
theorem dX2_step_199 : decode cX2_step 199 = .ok (.if_icmp .ge 46, 3) := by decide +kernel
theorem dX2_step_202 : decode cX2_step 202 = .ok (.aload_n 0, 1) := by decide +kernel
theorem dX2_step_203 : decode cX2_step 203 = .ok (.getfield 9, 3) := by decide +kernel
theorem dX2_step_206 : decode cX2_step 206 = .ok (.aload_n 0, 1) := by decide +kernel
theorem dX2_step_207 : decode cX2_step 207 = .ok (.getfield 29, 3) := by decide +kernel
theorem dX2_step_210 : decode cX2_step 210 = .ok (.iaload, 1) := by decide +kernel
theorem dX2_step_211 : decode cX2_step 211 = .ok (.invokestatic 62, 3) := by decide +kernel
theorem dX2_step_214 : decode cX2_step 214 = .ok (.ifCond .eq 31, 3) := by decide +kernel
theorem dX2_step_217 : decode cX2_step 217 = .ok (.aload_n 0, 1) := by decide +kernel
theorem dX2_step_218 : decode cX2_step 218 = .ok (.dup, 1) := by decide +kernel
theorem dX2_step_219 : decode cX2_step 219 = .ok (.getfield 29, 3) := by decide +kernel
theorem dX2_step_222 : decode cX2_step 222 = .ok (.iconst 1, 1) := by decide +kernel
theorem dX2_step_223 : decode cX2_step 223 = .ok (.iadd, 1) := by decide +kernel
theorem dX2_step_224 : decode cX2_step 224 = .ok (.putfield 29, 3) := by decide +kernel
theorem dX2_step_227 : decode cX2_step 227 = .ok (.goto (-36), 3) := by decide +kernel
theorem dX2_step_230 : decode cX2_step 230 = .ok (.aload_n 0, 1) := by decide +kernel
theorem dX2_step_231 : decode cX2_step 231 = .ok (.iconst 3, 1) := by decide +kernel
theorem dX2_step_232 : decode cX2_step 232 = .ok (.putfield 23, 3) := by decide +kernel
theorem dX2_step_235 : decode cX2_step 235 = .ok (.aload_n 0, 1) := by decide +kernel
theorem dX2_step_236 : decode cX2_step 236 = .ok (.dup, 1) := by decide +kernel
theorem dX2_step_237 : decode cX2_step 237 = .ok (.getfield 29, 3) := by decide +kernel
theorem dX2_step_240 : decode cX2_step 240 = .ok (.iconst 1, 1) := by decide +kernel
theorem dX2_step_241 : decode cX2_step 241 = .ok (.iadd, 1) := by decide +kernel
theorem dX2_step_242 : decode cX2_step 242 = .ok (.putfield 29, 3) := by decide +kernel
theorem dX2_step_245 : decode cX2_step 245 = .ok (.return_, 1) := by decide +kernel
theorem dX2_isDigit_0 : decode cX2_isDigit 0 = .ok (.iload_n 0, 1) := by decide +kernel
theorem dX2_isDigit_1 : decode cX2_isDigit 1 = .ok (.bipush 48, 2) := by decide +kernel
theorem dX2_isDigit_3 : decode cX2_isDigit 3 = .ok (.if_icmp .lt 13, 3) := by decide +kernel
theorem dX2_isDigit_6 : decode cX2_isDigit 6 = .ok (.iload_n 0, 1) := by decide +kernel
theorem dX2_isDigit_7 : decode cX2_isDigit 7 = .ok (.bipush 57, 2) := by decide +kernel
theorem dX2_isDigit_9 : decode cX2_isDigit 9 = .ok (.if_icmp .gt 7, 3) := by decide +kernel
theorem dX2_isDigit_12 : decode cX2_isDigit 12 = .ok (.iconst 1, 1) := by decide +kernel
theorem dX2_isDigit_13 : decode cX2_isDigit 13 = .ok (.goto 4, 3) := by decide +kernel
theorem dX2_isDigit_16 : decode cX2_isDigit 16 = .ok (.iconst 0, 1) := by decide +kernel
theorem dX2_isDigit_17 : decode cX2_isDigit 17 = .ok (.ireturn, 1) := by decide +kernel
theorem dX2_isLetter_0 : decode cX2_isLetter 0 = .ok (.iload_n 0, 1) := by decide +kernel
theorem dX2_isLetter_1 : decode cX2_isLetter 1 = .ok (.bipush 97, 2) := by decide +kernel
theorem dX2_isLetter_3 : decode cX2_isLetter 3 = .ok (.if_icmp .lt 13, 3) := by decide +kernel
theorem dX2_isLetter_6 : decode cX2_isLetter 6 = .ok (.iload_n 0, 1) := by decide +kernel
theorem dX2_isLetter_7 : decode cX2_isLetter 7 = .ok (.bipush 122, 2) := by decide +kernel
theorem dX2_isLetter_9 : decode cX2_isLetter 9 = .ok (.if_icmp .gt 7, 3) := by decide +kernel
theorem dX2_isLetter_12 : decode cX2_isLetter 12 = .ok (.iconst 1, 1) := by decide +kernel
theorem dX2_isLetter_13 : decode cX2_isLetter 13 = .ok (.goto 4, 3) := by decide +kernel
theorem dX2_isLetter_16 : decode cX2_isLetter 16 = .ok (.iconst 0, 1) := by decide +kernel
theorem dX2_isLetter_17 : decode cX2_isLetter 17 = .ok (.ireturn, 1) := by decide +kernel
theorem dX2_isAt_0 : decode cX2_isAt 0 = .ok (.aload_n 0, 1) := by decide +kernel
theorem dX2_isAt_1 : decode cX2_isAt 1 = .ok (.getfield 23, 3) := by decide +kernel
theorem dX2_isAt_4 : decode cX2_isAt 4 = .ok (.iconst 3, 1) := by decide +kernel
theorem dX2_isAt_5 : decode cX2_isAt 5 = .ok (.if_icmp .ne 20, 3) := by decide +kernel
theorem dX2_isAt_8 : decode cX2_isAt 8 = .ok (.aload_n 0, 1) := by decide +kernel
theorem dX2_isAt_9 : decode cX2_isAt 9 = .ok (.getfield 9, 3) := by decide +kernel
theorem dX2_isAt_12 : decode cX2_isAt 12 = .ok (.aload_n 0, 1) := by decide +kernel
theorem dX2_isAt_13 : decode cX2_isAt 13 = .ok (.getfield 26, 3) := by decide +kernel
theorem dX2_isAt_16 : decode cX2_isAt 16 = .ok (.iaload, 1) := by decide +kernel
theorem dX2_isAt_17 : decode cX2_isAt 17 = .ok (.iload_n 1, 1) := by decide +kernel
theorem dX2_isAt_18 : decode cX2_isAt 18 = .ok (.if_icmp .ne 7, 3) := by decide +kernel
theorem dX2_isAt_21 : decode cX2_isAt 21 = .ok (.iconst 1, 1) := by decide +kernel
theorem dX2_isAt_22 : decode cX2_isAt 22 = .ok (.goto 4, 3) := by decide +kernel
theorem dX2_isAt_25 : decode cX2_isAt 25 = .ok (.iconst 0, 1) := by decide +kernel
theorem dX2_isAt_26 : decode cX2_isAt 26 = .ok (.ireturn, 1) := by decide +kernel
theorem dX2_isAt__0 : decode cX2_isAt_ 0 = .ok (.aload_n 0, 1) := by decide +kernel
theorem dX2_isAt__1 : decode cX2_isAt_ 1 = .ok (.getfield 23, 3) := by decide +kernel
theorem dX2_isAt__4 : decode cX2_isAt_ 4 = .ok (.iconst 2, 1) := by decide +kernel
theorem dX2_isAt__5 : decode cX2_isAt_ 5 = .ok (.if_icmp .ne 19, 3) := by decide +kernel
theorem dX2_isAt__8 : decode cX2_isAt_ 8 = .ok (.aload_n 0, 1) := by decide +kernel
theorem dX2_isAt__9 : decode cX2_isAt_ 9 = .ok (.getfield 29, 3) := by decide +kernel
theorem dX2_isAt__12 : decode cX2_isAt_ 12 = .ok (.aload_n 0, 1) := by decide +kernel
theorem dX2_isAt__13 : decode cX2_isAt_ 13 = .ok (.getfield 26, 3) := by decide +kernel
theorem dX2_isAt__16 : decode cX2_isAt_ 16 = .ok (.isub, 1) := by decide +kernel
theorem dX2_isAt__17 : decode cX2_isAt_ 17 = .ok (.aload_n 1, 1) := by decide +kernel
theorem dX2_isAt__18 : decode cX2_isAt_ 18 = .ok (.invokevirtual 65, 3) := by decide +kernel
theorem dX2_isAt__21 : decode cX2_isAt_ 21 = .ok (.if_icmp .eq 5, 3) := by decide +kernel
theorem dX2_isAt__24 : decode cX2_isAt_ 24 = .ok (.iconst 0, 1) := by decide +kernel
theorem dX2_isAt__25 : decode cX2_isAt_ 25 = .ok (.ireturn, 1) := by decide +kernel
theorem dX2_isAt__26 : decode cX2_isAt_ 26 = .ok (.iconst 0, 1) := by decide +kernel
theorem dX2_isAt__27 : decode cX2_isAt_ 27 = .ok (.istore_n 2, 1) := by decide +kernel
theorem dX2_isAt__28 : decode cX2_isAt_ 28 = .ok (.iload_n 2, 1) := by decide +kernel
theorem dX2_isAt__29 : decode cX2_isAt_ 29 = .ok (.aload_n 1, 1) := by decide +kernel
theorem dX2_isAt__30 : decode cX2_isAt_ 30 = .ok (.invokevirtual 65, 3) := by decide +kernel
theorem dX2_isAt__33 : decode cX2_isAt_ 33 = .ok (.if_icmp .ge 30, 3) := by decide +kernel
theorem dX2_isAt__36 : decode cX2_isAt_ 36 = .ok (.aload_n 0, 1) := by decide +kernel
theorem dX2_isAt__37 : decode cX2_isAt_ 37 = .ok (.getfield 9, 3) := by decide +kernel
theorem dX2_isAt__40 : decode cX2_isAt_ 40 = .ok (.aload_n 0, 1) := by decide +kernel
theorem dX2_isAt__41 : decode cX2_isAt_ 41 = .ok (.getfield 26, 3) := by decide +kernel
theorem dX2_isAt__44 : decode cX2_isAt_ 44 = .ok (.iload_n 2, 1) := by decide +kernel
theorem dX2_isAt__45 : decode cX2_isAt_ 45 = .ok (.iadd, 1) := by decide +kernel
theorem dX2_isAt__46 : decode cX2_isAt_ 46 = .ok (.iaload, 1) := by decide +kernel
theorem dX2_isAt__47 : decode cX2_isAt_ 47 = .ok (.aload_n 1, 1) := by decide +kernel
theorem dX2_isAt__48 : decode cX2_isAt_ 48 = .ok (.iload_n 2, 1) := by decide +kernel
theorem dX2_isAt__49 : decode cX2_isAt_ 49 = .ok (.invokevirtual 70, 3) := by decide +kernel
theorem dX2_isAt__52 : decode cX2_isAt_ 52 = .ok (.if_icmp .eq 5, 3) := by decide +kernel
theorem dX2_isAt__55 : decode cX2_isAt_ 55 = .ok (.iconst 0, 1) := by decide +kernel
theorem dX2_isAt__56 : decode cX2_isAt_ 56 = .ok (.ireturn, 1) := by decide +kernel
theorem dX2_isAt__57 : decode cX2_isAt_ 57 = .ok (.iinc 2 1, 3) := by decide +kernel
theorem dX2_isAt__60 : decode cX2_isAt_ 60 = .ok (.goto (-32), 3) := by decide +kernel
theorem dX2_isAt__63 : decode cX2_isAt_ 63 = .ok (.iconst 1, 1) := by decide +kernel
theorem dX2_isAt__64 : decode cX2_isAt_ 64 = .ok (.ireturn, 1) := by decide +kernel
theorem dX2_pass_0 : decode cX2_pass 0 = .ok (.aload_n 0, 1) := by decide +kernel
theorem dX2_pass_1 : decode cX2_pass 1 = .ok (.iload_n 1, 1) := by decide +kernel
theorem dX2_pass_2 : decode cX2_pass 2 = .ok (.invokevirtual 74, 3) := by decide +kernel
theorem dX2_pass_5 : decode cX2_pass 5 = .ok (.ifCond .ne 9, 3) := by decide +kernel
theorem dX2_pass_8 : decode cX2_pass 8 = .ok (.aload_n 0, 1) := by decide +kernel
theorem dX2_pass_9 : decode cX2_pass 9 = .ok (.iconst 1, 1) := by decide +kernel
theorem dX2_pass_10 : decode cX2_pass 10 = .ok (.invokevirtual 78, 3) := by decide +kernel
theorem dX2_pass_13 : decode cX2_pass 13 = .ok (.ireturn, 1) := by decide +kernel
theorem dX2_pass_14 : decode cX2_pass 14 = .ok (.aload_n 0, 1) := by decide +kernel
theorem dX2_pass_15 : decode cX2_pass 15 = .ok (.invokevirtual 52, 3) := by decide +kernel
theorem dX2_pass_18 : decode cX2_pass 18 = .ok (.iconst 1, 1) := by decide +kernel
theorem dX2_pass_19 : decode cX2_pass 19 = .ok (.ireturn, 1) := by decide +kernel
theorem dX2_passOpening_0 : decode cX2_passOpening 0 = .ok (.aload_n 0, 1) := by decide +kernel
theorem dX2_passOpening_1 : decode cX2_passOpening 1 = .ok (.iload_n 1, 1) := by decide +kernel
theorem dX2_passOpening_2 : decode cX2_passOpening 2 = .ok (.invokevirtual 74, 3) := by decide +kernel
theorem dX2_passOpening_5 : decode cX2_passOpening 5 = .ok (.istore_n 3, 1) := by decide +kernel
theorem dX2_passOpening_6 : decode cX2_passOpening 6 = .ok (.iload_n 3, 1) := by decide +kernel
theorem dX2_passOpening_7 : decode cX2_passOpening 7 = .ok (.ifCond .eq 9, 3) := by decide +kernel
theorem dX2_passOpening_10 : decode cX2_passOpening 10 = .ok (.iload_n 2, 1) := by decide +kernel
theorem dX2_passOpening_11 : decode cX2_passOpening 11 = .ok (.bipush 6, 2) := by decide +kernel
theorem dX2_passOpening_13 : decode cX2_passOpening 13 = .ok (.if_icmp .lt 17, 3) := by decide +kernel
theorem dX2_passOpening_16 : decode cX2_passOpening 16 = .ok (.aload_n 0, 1) := by decide +kernel
theorem dX2_passOpening_17 : decode cX2_passOpening 17 = .ok (.iload_n 3, 1) := by decide +kernel
theorem dX2_passOpening_18 : decode cX2_passOpening 18 = .ok (.ifCond .eq 7, 3) := by decide +kernel
theorem dX2_passOpening_21 : decode cX2_passOpening 21 = .ok (.iconst 3, 1) := by decide +kernel
theorem dX2_passOpening_22 : decode cX2_passOpening 22 = .ok (.goto 4, 3) := by decide +kernel
theorem dX2_passOpening_25 : decode cX2_passOpening 25 = .ok (.iconst 1, 1) := by decide +kernel
theorem dX2_passOpening_26 : decode cX2_passOpening 26 = .ok (.invokevirtual 78, 3) := by decide +kernel
theorem dX2_passOpening_29 : decode cX2_passOpening 29 = .ok (.ireturn, 1) := by decide +kernel
theorem dX2_passOpening_30 : decode cX2_passOpening 30 = .ok (.aload_n 0, 1) := by decide +kernel
theorem dX2_passOpening_31 : decode cX2_passOpening 31 = .ok (.invokevirtual 52, 3) := by decide +kernel
theorem dX2_passOpening_34 : decode cX2_passOpening 34 = .ok (.iconst 1, 1) := by decide +kernel
theorem dX2_passOpening_35 : decode cX2_passOpening 35 = .ok (.ireturn, 1) := by decide +kernel
theorem dX2_readClause_0 : decode cX2_readClause 0 = .ok (.aload_n 0, 1) := by decide +kernel
theorem dX2_readClause_1 : decode cX2_readClause 1 = .ok (.invokevirtual 81, 3) := by decide +kernel
theorem dX2_readClause_4 : decode cX2_readClause 4 = .ok (.istore_n 2, 1) := by decide +kernel
theorem dX2_readClause_5 : decode cX2_readClause 5 = .ok (.iload_n 2, 1) := by decide +kernel
theorem dX2_readClause_6 : decode cX2_readClause 6 = .ok (.iconst (-1), 1) := by decide +kernel
theorem dX2_readClause_7 : decode cX2_readClause 7 = .ok (.if_icmp .ne 9, 3) := by decide +kernel
theorem dX2_readClause_10 : decode cX2_readClause 10 = .ok (.aload_n 0, 1) := by decide +kernel
theorem dX2_readClause_11 : decode cX2_readClause 11 = .ok (.iconst 1, 1) := by decide +kernel
theorem dX2_readClause_12 : decode cX2_readClause 12 = .ok (.invokevirtual 78, 3) := by decide +kernel
theorem dX2_readClause_15 : decode cX2_readClause 15 = .ok (.ireturn, 1) := by decide +kernel
theorem dX2_readClause_16 : decode cX2_readClause 16 = .ok (.iload_n 1, 1) := by decide +kernel
theorem dX2_readClause_17 : decode cX2_readClause 17 = .ok (.bipush 12, 2) := by decide +kernel
theorem dX2_readClause_19 : decode cX2_readClause 19 = .ok (.if_icmp .lt 9, 3) := by decide +kernel
theorem dX2_readClause_22 : decode cX2_readClause 22 = .ok (.aload_n 0, 1) := by decide +kernel
theorem dX2_readClause_23 : decode cX2_readClause 23 = .ok (.iconst 3, 1) := by decide +kernel
theorem dX2_readClause_24 : decode cX2_readClause 24 = .ok (.invokevirtual 78, 3) := by decide +kernel
theorem dX2_readClause_27 : decode cX2_readClause 27 = .ok (.ireturn, 1) := by decide +kernel
theorem dX2_readClause_28 : decode cX2_readClause 28 = .ok (.aload_n 0, 1) := by decide +kernel
theorem dX2_readClause_29 : decode cX2_readClause 29 = .ok (.invokevirtual 52, 3) := by decide +kernel
theorem dX2_readClause_32 : decode cX2_readClause 32 = .ok (.aload_n 0, 1) := by decide +kernel
theorem dX2_readClause_33 : decode cX2_readClause 33 = .ok (.getfield 19, 3) := by decide +kernel
theorem dX2_readClause_36 : decode cX2_readClause 36 = .ok (.iload_n 2, 1) := by decide +kernel
theorem dX2_readClause_37 : decode cX2_readClause 37 = .ok (.invokevirtual 84, 3) := by decide +kernel
theorem dX2_readClause_40 : decode cX2_readClause 40 = .ok (.aload_n 0, 1) := by decide +kernel
theorem dX2_readClause_41 : decode cX2_readClause 41 = .ok (.iconst 0, 1) := by decide +kernel
theorem dX2_readClause_42 : decode cX2_readClause 42 = .ok (.invokevirtual 88, 3) := by decide +kernel
theorem dX2_readClause_45 : decode cX2_readClause 45 = .ok (.ifCond .ne 5, 3) := by decide +kernel
theorem dX2_readClause_48 : decode cX2_readClause 48 = .ok (.iconst 0, 1) := by decide +kernel
theorem dX2_readClause_49 : decode cX2_readClause 49 = .ok (.ireturn, 1) := by decide +kernel
theorem dX2_readClause_50 : decode cX2_readClause 50 = .ok (.aload_n 0, 1) := by decide +kernel
theorem dX2_readClause_51 : decode cX2_readClause 51 = .ok (.getfield 19, 3) := by decide +kernel
theorem dX2_readClause_54 : decode cX2_readClause 54 = .ok (.invokevirtual 91, 3) := by decide +kernel
theorem dX2_readClause_57 : decode cX2_readClause 57 = .ok (.aload_n 0, 1) := by decide +kernel
theorem dX2_readClause_58 : decode cX2_readClause 58 = .ok (.ldc 94, 2) := by decide +kernel
theorem dX2_readClause_60 : decode cX2_readClause 60 = .ok (.invokevirtual 96, 3) := by decide +kernel
theorem dX2_readClause_63 : decode cX2_readClause 63 = .ok (.ifCond .eq 17, 3) := by decide +kernel
theorem dX2_readClause_66 : decode cX2_readClause 66 = .ok (.aload_n 0, 1) := by decide +kernel
theorem dX2_readClause_67 : decode cX2_readClause 67 = .ok (.invokevirtual 52, 3) := by decide +kernel
theorem dX2_readClause_70 : decode cX2_readClause 70 = .ok (.aload_n 0, 1) := by decide +kernel
theorem dX2_readClause_71 : decode cX2_readClause 71 = .ok (.iconst 0, 1) := by decide +kernel
theorem dX2_readClause_72 : decode cX2_readClause 72 = .ok (.invokevirtual 99, 3) := by decide +kernel
theorem dX2_readClause_75 : decode cX2_readClause 75 = .ok (.ifCond .ne 5, 3) := by decide +kernel
theorem dX2_readClause_78 : decode cX2_readClause 78 = .ok (.iconst 0, 1) := by decide +kernel
theorem dX2_readClause_79 : decode cX2_readClause 79 = .ok (.ireturn, 1) := by decide +kernel
theorem dX2_readClause_80 : decode cX2_readClause 80 = .ok (.aload_n 0, 1) := by decide +kernel
theorem dX2_readClause_81 : decode cX2_readClause 81 = .ok (.getfield 19, 3) := by decide +kernel
theorem dX2_readClause_84 : decode cX2_readClause 84 = .ok (.invokevirtual 102, 3) := by decide +kernel
theorem dX2_readClause_87 : decode cX2_readClause 87 = .ok (.aload_n 0, 1) := by decide +kernel
theorem dX2_readClause_88 : decode cX2_readClause 88 = .ok (.bipush 59, 2) := by decide +kernel
theorem dX2_readClause_90 : decode cX2_readClause 90 = .ok (.invokevirtual 105, 3) := by decide +kernel
theorem dX2_readClause_93 : decode cX2_readClause 93 = .ok (.ireturn, 1) := by decide +kernel
theorem dX2_clauseWord_0 : decode cX2_clauseWord 0 = .ok (.aload_n 0, 1) := by decide +kernel
theorem dX2_clauseWord_1 : decode cX2_clauseWord 1 = .ok (.ldc 108, 2) := by decide +kernel
theorem dX2_clauseWord_3 : decode cX2_clauseWord 3 = .ok (.invokevirtual 96, 3) := by decide +kernel
theorem dX2_clauseWord_6 : decode cX2_clauseWord 6 = .ok (.ifCond .eq 5, 3) := by decide +kernel
theorem dX2_clauseWord_9 : decode cX2_clauseWord 9 = .ok (.iconst 0, 1) := by decide +kernel
theorem dX2_clauseWord_10 : decode cX2_clauseWord 10 = .ok (.ireturn, 1) := by decide +kernel
theorem dX2_clauseWord_11 : decode cX2_clauseWord 11 = .ok (.aload_n 0, 1) := by decide +kernel
theorem dX2_clauseWord_12 : decode cX2_clauseWord 12 = .ok (.ldc 110, 2) := by decide +kernel
theorem dX2_clauseWord_14 : decode cX2_clauseWord 14 = .ok (.invokevirtual 96, 3) := by decide +kernel
theorem dX2_clauseWord_17 : decode cX2_clauseWord 17 = .ok (.ifCond .eq 5, 3) := by decide +kernel
theorem dX2_clauseWord_20 : decode cX2_clauseWord 20 = .ok (.iconst 1, 1) := by decide +kernel
theorem dX2_clauseWord_21 : decode cX2_clauseWord 21 = .ok (.ireturn, 1) := by decide +kernel
theorem dX2_clauseWord_22 : decode cX2_clauseWord 22 = .ok (.aload_n 0, 1) := by decide +kernel
theorem dX2_clauseWord_23 : decode cX2_clauseWord 23 = .ok (.ldc 112, 2) := by decide +kernel
theorem dX2_clauseWord_25 : decode cX2_clauseWord 25 = .ok (.invokevirtual 96, 3) := by decide +kernel
theorem dX2_clauseWord_28 : decode cX2_clauseWord 28 = .ok (.ifCond .eq 5, 3) := by decide +kernel
theorem dX2_clauseWord_31 : decode cX2_clauseWord 31 = .ok (.iconst 2, 1) := by decide +kernel
theorem dX2_clauseWord_32 : decode cX2_clauseWord 32 = .ok (.ireturn, 1) := by decide +kernel
theorem dX2_clauseWord_33 : decode cX2_clauseWord 33 = .ok (.aload_n 0, 1) := by decide +kernel
theorem dX2_clauseWord_34 : decode cX2_clauseWord 34 = .ok (.ldc 114, 2) := by decide +kernel
theorem dX2_clauseWord_36 : decode cX2_clauseWord 36 = .ok (.invokevirtual 96, 3) := by decide +kernel
theorem dX2_clauseWord_39 : decode cX2_clauseWord 39 = .ok (.ifCond .eq 7, 3) := by decide +kernel
theorem dX2_clauseWord_42 : decode cX2_clauseWord 42 = .ok (.iconst 3, 1) := by decide +kernel
theorem dX2_clauseWord_43 : decode cX2_clauseWord 43 = .ok (.goto 4, 3) := by decide +kernel
theorem dX2_clauseWord_46 : decode cX2_clauseWord 46 = .ok (.iconst (-1), 1) := by decide +kernel
theorem dX2_clauseWord_47 : decode cX2_clauseWord 47 = .ok (.ireturn, 1) := by decide +kernel
theorem dX2_readSum_0 : decode cX2_readSum 0 = .ok (.aload_n 0, 1) := by decide +kernel
theorem dX2_readSum_1 : decode cX2_readSum 1 = .ok (.iload_n 1, 1) := by decide +kernel
theorem dX2_readSum_2 : decode cX2_readSum 2 = .ok (.invokevirtual 116, 3) := by decide +kernel
theorem dX2_readSum_5 : decode cX2_readSum 5 = .ok (.istore_n 2, 1) := by decide +kernel
theorem dX2_readSum_6 : decode cX2_readSum 6 = .ok (.iconst 0, 1) := by decide +kernel
theorem dX2_readSum_7 : decode cX2_readSum 7 = .ok (.istore_n 3, 1) := by decide +kernel
theorem dX2_readSum_8 : decode cX2_readSum 8 = .ok (.iload_n 3, 1) := by decide +kernel
theorem dX2_readSum_9 : decode cX2_readSum 9 = .ok (.aload_n 0, 1) := by decide +kernel
theorem dX2_readSum_10 : decode cX2_readSum 10 = .ok (.getfield 15, 3) := by decide +kernel
theorem dX2_readSum_13 : decode cX2_readSum 13 = .ok (.if_icmp .ge 70, 3) := by decide +kernel
theorem dX2_readSum_16 : decode cX2_readSum 16 = .ok (.iload_n 2, 1) := by decide +kernel
theorem dX2_readSum_17 : decode cX2_readSum 17 = .ok (.ifCond .eq 66, 3) := by decide +kernel
theorem dX2_readSum_20 : decode cX2_readSum 20 = .ok (.aload_n 0, 1) := by decide +kernel
theorem dX2_readSum_21 : decode cX2_readSum 21 = .ok (.bipush 43, 2) := by decide +kernel
theorem dX2_readSum_23 : decode cX2_readSum 23 = .ok (.invokevirtual 74, 3) := by decide +kernel
theorem dX2_readSum_26 : decode cX2_readSum 26 = .ok (.ifCond .ne 12, 3) := by decide +kernel
theorem dX2_readSum_29 : decode cX2_readSum 29 = .ok (.aload_n 0, 1) := by decide +kernel
theorem dX2_readSum_30 : decode cX2_readSum 30 = .ok (.bipush 45, 2) := by decide +kernel
theorem dX2_readSum_32 : decode cX2_readSum 32 = .ok (.invokevirtual 74, 3) := by decide +kernel
theorem dX2_readSum_35 : decode cX2_readSum 35 = .ok (.ifCond .eq 48, 3) := by decide +kernel
theorem dX2_readSum_38 : decode cX2_readSum 38 = .ok (.aload_n 0, 1) := by decide +kernel
theorem dX2_readSum_39 : decode cX2_readSum 39 = .ok (.bipush 43, 2) := by decide +kernel
theorem dX2_readSum_41 : decode cX2_readSum 41 = .ok (.invokevirtual 74, 3) := by decide +kernel
theorem dX2_readSum_44 : decode cX2_readSum 44 = .ok (.ifCond .eq 9, 3) := by decide +kernel
theorem dX2_readSum_47 : decode cX2_readSum 47 = .ok (.sipush 2000, 3) := by decide +kernel
theorem dX2_readSum_50 : decode cX2_readSum 50 = .ok (.goto 6, 3) := by decide +kernel
theorem dX2_readSum_53 : decode cX2_readSum 53 = .ok (.sipush 2001, 3) := by decide +kernel
theorem dX2_readSum_56 : decode cX2_readSum 56 = .ok (.istore 4, 2) := by decide +kernel
theorem dX2_readSum_58 : decode cX2_readSum 58 = .ok (.aload_n 0, 1) := by decide +kernel
theorem dX2_readSum_59 : decode cX2_readSum 59 = .ok (.invokevirtual 52, 3) := by decide +kernel
theorem dX2_readSum_62 : decode cX2_readSum 62 = .ok (.aload_n 0, 1) := by decide +kernel
theorem dX2_readSum_63 : decode cX2_readSum 63 = .ok (.iload_n 1, 1) := by decide +kernel
theorem dX2_readSum_64 : decode cX2_readSum 64 = .ok (.invokevirtual 116, 3) := by decide +kernel
theorem dX2_readSum_67 : decode cX2_readSum 67 = .ok (.istore_n 2, 1) := by decide +kernel
theorem dX2_readSum_68 : decode cX2_readSum 68 = .ok (.aload_n 0, 1) := by decide +kernel
theorem dX2_readSum_69 : decode cX2_readSum 69 = .ok (.getfield 19, 3) := by decide +kernel
theorem dX2_readSum_72 : decode cX2_readSum 72 = .ok (.iload 4, 2) := by decide +kernel
theorem dX2_readSum_74 : decode cX2_readSum 74 = .ok (.invokevirtual 119, 3) := by decide +kernel
theorem dX2_readSum_77 : decode cX2_readSum 77 = .ok (.iinc 3 1, 3) := by decide +kernel
theorem dX2_readSum_80 : decode cX2_readSum 80 = .ok (.goto (-72), 3) := by decide +kernel
theorem dX2_readSum_83 : decode cX2_readSum 83 = .ok (.iload_n 2, 1) := by decide +kernel
theorem dX2_readSum_84 : decode cX2_readSum 84 = .ok (.ireturn, 1) := by decide +kernel
theorem dX2_readProduct_0 : decode cX2_readProduct 0 = .ok (.aload_n 0, 1) := by decide +kernel
theorem dX2_readProduct_1 : decode cX2_readProduct 1 = .ok (.iload_n 1, 1) := by decide +kernel
theorem dX2_readProduct_2 : decode cX2_readProduct 2 = .ok (.invokevirtual 122, 3) := by decide +kernel
theorem dX2_readProduct_5 : decode cX2_readProduct 5 = .ok (.istore_n 2, 1) := by decide +kernel
theorem dX2_readProduct_6 : decode cX2_readProduct 6 = .ok (.iconst 0, 1) := by decide +kernel
theorem dX2_readProduct_7 : decode cX2_readProduct 7 = .ok (.istore_n 3, 1) := by decide +kernel
theorem dX2_readProduct_8 : decode cX2_readProduct 8 = .ok (.iload_n 3, 1) := by decide +kernel
theorem dX2_readProduct_9 : decode cX2_readProduct 9 = .ok (.aload_n 0, 1) := by decide +kernel
theorem dX2_readProduct_10 : decode cX2_readProduct 10 = .ok (.getfield 15, 3) := by decide +kernel
theorem dX2_readProduct_13 : decode cX2_readProduct 13 = .ok (.if_icmp .ge 70, 3) := by decide +kernel
theorem dX2_readProduct_16 : decode cX2_readProduct 16 = .ok (.iload_n 2, 1) := by decide +kernel
theorem dX2_readProduct_17 : decode cX2_readProduct 17 = .ok (.ifCond .eq 66, 3) := by decide +kernel
theorem dX2_readProduct_20 : decode cX2_readProduct 20 = .ok (.aload_n 0, 1) := by decide +kernel
theorem dX2_readProduct_21 : decode cX2_readProduct 21 = .ok (.bipush 42, 2) := by decide +kernel
theorem dX2_readProduct_23 : decode cX2_readProduct 23 = .ok (.invokevirtual 74, 3) := by decide +kernel
theorem dX2_readProduct_26 : decode cX2_readProduct 26 = .ok (.ifCond .ne 12, 3) := by decide +kernel
theorem dX2_readProduct_29 : decode cX2_readProduct 29 = .ok (.aload_n 0, 1) := by decide +kernel
theorem dX2_readProduct_30 : decode cX2_readProduct 30 = .ok (.bipush 47, 2) := by decide +kernel
theorem dX2_readProduct_32 : decode cX2_readProduct 32 = .ok (.invokevirtual 74, 3) := by decide +kernel
theorem dX2_readProduct_35 : decode cX2_readProduct 35 = .ok (.ifCond .eq 48, 3) := by decide +kernel
theorem dX2_readProduct_38 : decode cX2_readProduct 38 = .ok (.aload_n 0, 1) := by decide +kernel
theorem dX2_readProduct_39 : decode cX2_readProduct 39 = .ok (.bipush 42, 2) := by decide +kernel
theorem dX2_readProduct_41 : decode cX2_readProduct 41 = .ok (.invokevirtual 74, 3) := by decide +kernel
theorem dX2_readProduct_44 : decode cX2_readProduct 44 = .ok (.ifCond .eq 9, 3) := by decide +kernel
theorem dX2_readProduct_47 : decode cX2_readProduct 47 = .ok (.sipush 2002, 3) := by decide +kernel
theorem dX2_readProduct_50 : decode cX2_readProduct 50 = .ok (.goto 6, 3) := by decide +kernel
theorem dX2_readProduct_53 : decode cX2_readProduct 53 = .ok (.sipush 2003, 3) := by decide +kernel
theorem dX2_readProduct_56 : decode cX2_readProduct 56 = .ok (.istore 4, 2) := by decide +kernel
theorem dX2_readProduct_58 : decode cX2_readProduct 58 = .ok (.aload_n 0, 1) := by decide +kernel
theorem dX2_readProduct_59 : decode cX2_readProduct 59 = .ok (.invokevirtual 52, 3) := by decide +kernel
theorem dX2_readProduct_62 : decode cX2_readProduct 62 = .ok (.aload_n 0, 1) := by decide +kernel
theorem dX2_readProduct_63 : decode cX2_readProduct 63 = .ok (.iload_n 1, 1) := by decide +kernel
theorem dX2_readProduct_64 : decode cX2_readProduct 64 = .ok (.invokevirtual 122, 3) := by decide +kernel
theorem dX2_readProduct_67 : decode cX2_readProduct 67 = .ok (.istore_n 2, 1) := by decide +kernel
theorem dX2_readProduct_68 : decode cX2_readProduct 68 = .ok (.aload_n 0, 1) := by decide +kernel
theorem dX2_readProduct_69 : decode cX2_readProduct 69 = .ok (.getfield 19, 3) := by decide +kernel
theorem dX2_readProduct_72 : decode cX2_readProduct 72 = .ok (.iload 4, 2) := by decide +kernel
theorem dX2_readProduct_74 : decode cX2_readProduct 74 = .ok (.invokevirtual 119, 3) := by decide +kernel
theorem dX2_readProduct_77 : decode cX2_readProduct 77 = .ok (.iinc 3 1, 3) := by decide +kernel
theorem dX2_readProduct_80 : decode cX2_readProduct 80 = .ok (.goto (-72), 3) := by decide +kernel
theorem dX2_readProduct_83 : decode cX2_readProduct 83 = .ok (.iload_n 2, 1) := by decide +kernel
theorem dX2_readProduct_84 : decode cX2_readProduct 84 = .ok (.ireturn, 1) := by decide +kernel
theorem dX2_readUnit_0 : decode cX2_readUnit 0 = .ok (.aload_n 0, 1) := by decide +kernel
theorem dX2_readUnit_1 : decode cX2_readUnit 1 = .ok (.getfield 23, 3) := by decide +kernel
theorem dX2_readUnit_4 : decode cX2_readUnit 4 = .ok (.iconst 1, 1) := by decide +kernel
theorem dX2_readUnit_5 : decode cX2_readUnit 5 = .ok (.if_icmp .ne 36, 3) := by decide +kernel
theorem dX2_readUnit_8 : decode cX2_readUnit 8 = .ok (.aload_n 0, 1) := by decide +kernel
theorem dX2_readUnit_9 : decode cX2_readUnit 9 = .ok (.getfield 32, 3) := by decide +kernel
theorem dX2_readUnit_12 : decode cX2_readUnit 12 = .ok (.sipush 999, 3) := by decide +kernel
theorem dX2_readUnit_15 : decode cX2_readUnit 15 = .ok (.if_icmp .le 9, 3) := by decide +kernel
theorem dX2_readUnit_18 : decode cX2_readUnit 18 = .ok (.aload_n 0, 1) := by decide +kernel
theorem dX2_readUnit_19 : decode cX2_readUnit 19 = .ok (.iconst 2, 1) := by decide +kernel
theorem dX2_readUnit_20 : decode cX2_readUnit 20 = .ok (.invokevirtual 78, 3) := by decide +kernel
theorem dX2_readUnit_23 : decode cX2_readUnit 23 = .ok (.ireturn, 1) := by decide +kernel
theorem dX2_readUnit_24 : decode cX2_readUnit 24 = .ok (.aload_n 0, 1) := by decide +kernel
theorem dX2_readUnit_25 : decode cX2_readUnit 25 = .ok (.getfield 19, 3) := by decide +kernel
theorem dX2_readUnit_28 : decode cX2_readUnit 28 = .ok (.aload_n 0, 1) := by decide +kernel
theorem dX2_readUnit_29 : decode cX2_readUnit 29 = .ok (.getfield 32, 3) := by decide +kernel
theorem dX2_readUnit_32 : decode cX2_readUnit 32 = .ok (.invokevirtual 119, 3) := by decide +kernel
theorem dX2_readUnit_35 : decode cX2_readUnit 35 = .ok (.aload_n 0, 1) := by decide +kernel
theorem dX2_readUnit_36 : decode cX2_readUnit 36 = .ok (.invokevirtual 52, 3) := by decide +kernel
theorem dX2_readUnit_39 : decode cX2_readUnit 39 = .ok (.iconst 1, 1) := by decide +kernel
theorem dX2_readUnit_40 : decode cX2_readUnit 40 = .ok (.ireturn, 1) := by decide +kernel
theorem dX2_readUnit_41 : decode cX2_readUnit 41 = .ok (.aload_n 0, 1) := by decide +kernel
theorem dX2_readUnit_42 : decode cX2_readUnit 42 = .ok (.bipush 40, 2) := by decide +kernel
theorem dX2_readUnit_44 : decode cX2_readUnit 44 = .ok (.invokevirtual 74, 3) := by decide +kernel
theorem dX2_readUnit_47 : decode cX2_readUnit 47 = .ok (.ifCond .eq 38, 3) := by decide +kernel
theorem dX2_readUnit_50 : decode cX2_readUnit 50 = .ok (.aload_n 0, 1) := by decide +kernel
theorem dX2_readUnit_51 : decode cX2_readUnit 51 = .ok (.bipush 40, 2) := by decide +kernel
theorem dX2_readUnit_53 : decode cX2_readUnit 53 = .ok (.iload_n 1, 1) := by decide +kernel
theorem dX2_readUnit_54 : decode cX2_readUnit 54 = .ok (.invokevirtual 125, 3) := by decide +kernel
theorem dX2_readUnit_57 : decode cX2_readUnit 57 = .ok (.ifCond .eq 26, 3) := by decide +kernel
theorem dX2_readUnit_60 : decode cX2_readUnit 60 = .ok (.aload_n 0, 1) := by decide +kernel
theorem dX2_readUnit_61 : decode cX2_readUnit 61 = .ok (.iload_n 1, 1) := by decide +kernel
theorem dX2_readUnit_62 : decode cX2_readUnit 62 = .ok (.iconst 1, 1) := by decide +kernel
theorem dX2_readUnit_63 : decode cX2_readUnit 63 = .ok (.iadd, 1) := by decide +kernel
theorem dX2_readUnit_64 : decode cX2_readUnit 64 = .ok (.invokevirtual 88, 3) := by decide +kernel
theorem dX2_readUnit_67 : decode cX2_readUnit 67 = .ok (.ifCond .eq 16, 3) := by decide +kernel
theorem dX2_readUnit_70 : decode cX2_readUnit 70 = .ok (.aload_n 0, 1) := by decide +kernel
theorem dX2_readUnit_71 : decode cX2_readUnit 71 = .ok (.bipush 41, 2) := by decide +kernel
theorem dX2_readUnit_73 : decode cX2_readUnit 73 = .ok (.invokevirtual 105, 3) := by decide +kernel
theorem dX2_readUnit_76 : decode cX2_readUnit 76 = .ok (.ifCond .eq 7, 3) := by decide +kernel
theorem dX2_readUnit_79 : decode cX2_readUnit 79 = .ok (.iconst 1, 1) := by decide +kernel
theorem dX2_readUnit_80 : decode cX2_readUnit 80 = .ok (.goto 4, 3) := by decide +kernel
theorem dX2_readUnit_83 : decode cX2_readUnit 83 = .ok (.iconst 0, 1) := by decide +kernel
theorem dX2_readUnit_84 : decode cX2_readUnit 84 = .ok (.ireturn, 1) := by decide +kernel
theorem dX2_readUnit_85 : decode cX2_readUnit 85 = .ok (.aload_n 0, 1) := by decide +kernel
theorem dX2_readUnit_86 : decode cX2_readUnit 86 = .ok (.ldc 129, 2) := by decide +kernel
theorem dX2_readUnit_88 : decode cX2_readUnit 88 = .ok (.invokevirtual 96, 3) := by decide +kernel
theorem dX2_readUnit_91 : decode cX2_readUnit 91 = .ok (.ifCond .eq 12, 3) := by decide +kernel
theorem dX2_readUnit_94 : decode cX2_readUnit 94 = .ok (.aload_n 0, 1) := by decide +kernel
theorem dX2_readUnit_95 : decode cX2_readUnit 95 = .ok (.sipush 2004, 3) := by decide +kernel
theorem dX2_readUnit_98 : decode cX2_readUnit 98 = .ok (.iload_n 1, 1) := by decide +kernel
theorem dX2_readUnit_99 : decode cX2_readUnit 99 = .ok (.invokevirtual 131, 3) := by decide +kernel
theorem dX2_readUnit_102 : decode cX2_readUnit 102 = .ok (.ireturn, 1) := by decide +kernel
theorem dX2_readUnit_103 : decode cX2_readUnit 103 = .ok (.aload_n 0, 1) := by decide +kernel
theorem dX2_readUnit_104 : decode cX2_readUnit 104 = .ok (.ldc 135, 2) := by decide +kernel
theorem dX2_readUnit_106 : decode cX2_readUnit 106 = .ok (.invokevirtual 96, 3) := by decide +kernel
theorem dX2_readUnit_109 : decode cX2_readUnit 109 = .ok (.ifCond .eq 12, 3) := by decide +kernel
theorem dX2_readUnit_112 : decode cX2_readUnit 112 = .ok (.aload_n 0, 1) := by decide +kernel
theorem dX2_readUnit_113 : decode cX2_readUnit 113 = .ok (.sipush 2005, 3) := by decide +kernel
theorem dX2_readUnit_116 : decode cX2_readUnit 116 = .ok (.iload_n 1, 1) := by decide +kernel
theorem dX2_readUnit_117 : decode cX2_readUnit 117 = .ok (.invokevirtual 131, 3) := by decide +kernel
theorem dX2_readUnit_120 : decode cX2_readUnit 120 = .ok (.ireturn, 1) := by decide +kernel
theorem dX2_readUnit_121 : decode cX2_readUnit 121 = .ok (.aload_n 0, 1) := by decide +kernel
theorem dX2_readUnit_122 : decode cX2_readUnit 122 = .ok (.invokevirtual 137, 3) := by decide +kernel
theorem dX2_readUnit_125 : decode cX2_readUnit 125 = .ok (.istore_n 2, 1) := by decide +kernel
theorem dX2_readUnit_126 : decode cX2_readUnit 126 = .ok (.iload_n 2, 1) := by decide +kernel
theorem dX2_readUnit_127 : decode cX2_readUnit 127 = .ok (.iconst (-1), 1) := by decide +kernel
theorem dX2_readUnit_128 : decode cX2_readUnit 128 = .ok (.if_icmp .ne 9, 3) := by decide +kernel
theorem dX2_readUnit_131 : decode cX2_readUnit 131 = .ok (.aload_n 0, 1) := by decide +kernel
theorem dX2_readUnit_132 : decode cX2_readUnit 132 = .ok (.iconst 1, 1) := by decide +kernel
theorem dX2_readUnit_133 : decode cX2_readUnit 133 = .ok (.invokevirtual 78, 3) := by decide +kernel
theorem dX2_readUnit_136 : decode cX2_readUnit 136 = .ok (.ireturn, 1) := by decide +kernel
theorem dX2_readUnit_137 : decode cX2_readUnit 137 = .ok (.aload_n 0, 1) := by decide +kernel
theorem dX2_readUnit_138 : decode cX2_readUnit 138 = .ok (.getfield 19, 3) := by decide +kernel
theorem dX2_readUnit_141 : decode cX2_readUnit 141 = .ok (.sipush 1000, 3) := by decide +kernel
theorem dX2_readUnit_144 : decode cX2_readUnit 144 = .ok (.iload_n 2, 1) := by decide +kernel
theorem dX2_readUnit_145 : decode cX2_readUnit 145 = .ok (.iadd, 1) := by decide +kernel
theorem dX2_readUnit_146 : decode cX2_readUnit 146 = .ok (.invokevirtual 119, 3) := by decide +kernel
theorem dX2_readUnit_149 : decode cX2_readUnit 149 = .ok (.aload_n 0, 1) := by decide +kernel
theorem dX2_readUnit_150 : decode cX2_readUnit 150 = .ok (.invokevirtual 52, 3) := by decide +kernel
theorem dX2_readUnit_153 : decode cX2_readUnit 153 = .ok (.iconst 1, 1) := by decide +kernel
theorem dX2_readUnit_154 : decode cX2_readUnit 154 = .ok (.ireturn, 1) := by decide +kernel
theorem dX2_readCouple_0 : decode cX2_readCouple 0 = .ok (.aload_n 0, 1) := by decide +kernel
theorem dX2_readCouple_1 : decode cX2_readCouple 1 = .ok (.invokevirtual 52, 3) := by decide +kernel
theorem dX2_readCouple_4 : decode cX2_readCouple 4 = .ok (.aload_n 0, 1) := by decide +kernel
theorem dX2_readCouple_5 : decode cX2_readCouple 5 = .ok (.bipush 40, 2) := by decide +kernel
theorem dX2_readCouple_7 : decode cX2_readCouple 7 = .ok (.iload_n 2, 1) := by decide +kernel
theorem dX2_readCouple_8 : decode cX2_readCouple 8 = .ok (.invokevirtual 125, 3) := by decide +kernel
theorem dX2_readCouple_11 : decode cX2_readCouple 11 = .ok (.ifCond .eq 45, 3) := by decide +kernel
theorem dX2_readCouple_14 : decode cX2_readCouple 14 = .ok (.aload_n 0, 1) := by decide +kernel
theorem dX2_readCouple_15 : decode cX2_readCouple 15 = .ok (.iload_n 2, 1) := by decide +kernel
theorem dX2_readCouple_16 : decode cX2_readCouple 16 = .ok (.iconst 1, 1) := by decide +kernel
theorem dX2_readCouple_17 : decode cX2_readCouple 17 = .ok (.iadd, 1) := by decide +kernel
theorem dX2_readCouple_18 : decode cX2_readCouple 18 = .ok (.invokevirtual 88, 3) := by decide +kernel
theorem dX2_readCouple_21 : decode cX2_readCouple 21 = .ok (.ifCond .eq 35, 3) := by decide +kernel
theorem dX2_readCouple_24 : decode cX2_readCouple 24 = .ok (.aload_n 0, 1) := by decide +kernel
theorem dX2_readCouple_25 : decode cX2_readCouple 25 = .ok (.bipush 44, 2) := by decide +kernel
theorem dX2_readCouple_27 : decode cX2_readCouple 27 = .ok (.invokevirtual 105, 3) := by decide +kernel
theorem dX2_readCouple_30 : decode cX2_readCouple 30 = .ok (.ifCond .eq 26, 3) := by decide +kernel
theorem dX2_readCouple_33 : decode cX2_readCouple 33 = .ok (.aload_n 0, 1) := by decide +kernel
theorem dX2_readCouple_34 : decode cX2_readCouple 34 = .ok (.iload_n 2, 1) := by decide +kernel
theorem dX2_readCouple_35 : decode cX2_readCouple 35 = .ok (.iconst 1, 1) := by decide +kernel
theorem dX2_readCouple_36 : decode cX2_readCouple 36 = .ok (.iadd, 1) := by decide +kernel
theorem dX2_readCouple_37 : decode cX2_readCouple 37 = .ok (.invokevirtual 88, 3) := by decide +kernel
theorem dX2_readCouple_40 : decode cX2_readCouple 40 = .ok (.ifCond .eq 16, 3) := by decide +kernel
theorem dX2_readCouple_43 : decode cX2_readCouple 43 = .ok (.aload_n 0, 1) := by decide +kernel
theorem dX2_readCouple_44 : decode cX2_readCouple 44 = .ok (.bipush 41, 2) := by decide +kernel
theorem dX2_readCouple_46 : decode cX2_readCouple 46 = .ok (.invokevirtual 105, 3) := by decide +kernel
theorem dX2_readCouple_49 : decode cX2_readCouple 49 = .ok (.ifCond .eq 7, 3) := by decide +kernel
theorem dX2_readCouple_52 : decode cX2_readCouple 52 = .ok (.iconst 1, 1) := by decide +kernel
theorem dX2_readCouple_53 : decode cX2_readCouple 53 = .ok (.goto 4, 3) := by decide +kernel
theorem dX2_readCouple_56 : decode cX2_readCouple 56 = .ok (.iconst 0, 1) := by decide +kernel
theorem dX2_readCouple_57 : decode cX2_readCouple 57 = .ok (.istore_n 3, 1) := by decide +kernel
theorem dX2_readCouple_58 : decode cX2_readCouple 58 = .ok (.aload_n 0, 1) := by decide +kernel
theorem dX2_readCouple_59 : decode cX2_readCouple 59 = .ok (.getfield 19, 3) := by decide +kernel
theorem dX2_readCouple_62 : decode cX2_readCouple 62 = .ok (.iload_n 1, 1) := by decide +kernel
theorem dX2_readCouple_63 : decode cX2_readCouple 63 = .ok (.invokevirtual 119, 3) := by decide +kernel
theorem dX2_readCouple_66 : decode cX2_readCouple 66 = .ok (.iload_n 3, 1) := by decide +kernel
theorem dX2_readCouple_67 : decode cX2_readCouple 67 = .ok (.ireturn, 1) := by decide +kernel
theorem dX2_factName_0 : decode cX2_factName 0 = .ok (.aload_n 0, 1) := by decide +kernel
theorem dX2_factName_1 : decode cX2_factName 1 = .ok (.ldc 140, 2) := by decide +kernel
theorem dX2_factName_3 : decode cX2_factName 3 = .ok (.invokevirtual 96, 3) := by decide +kernel
theorem dX2_factName_6 : decode cX2_factName 6 = .ok (.ifCond .eq 5, 3) := by decide +kernel
theorem dX2_factName_9 : decode cX2_factName 9 = .ok (.iconst 0, 1) := by decide +kernel
theorem dX2_factName_10 : decode cX2_factName 10 = .ok (.ireturn, 1) := by decide +kernel
theorem dX2_factName_11 : decode cX2_factName 11 = .ok (.aload_n 0, 1) := by decide +kernel
theorem dX2_factName_12 : decode cX2_factName 12 = .ok (.ldc 142, 2) := by decide +kernel
theorem dX2_factName_14 : decode cX2_factName 14 = .ok (.invokevirtual 96, 3) := by decide +kernel
theorem dX2_factName_17 : decode cX2_factName 17 = .ok (.ifCond .eq 5, 3) := by decide +kernel
theorem dX2_factName_20 : decode cX2_factName 20 = .ok (.iconst 1, 1) := by decide +kernel
theorem dX2_factName_21 : decode cX2_factName 21 = .ok (.ireturn, 1) := by decide +kernel
theorem dX2_factName_22 : decode cX2_factName 22 = .ok (.aload_n 0, 1) := by decide +kernel
theorem dX2_factName_23 : decode cX2_factName 23 = .ok (.ldc 144, 2) := by decide +kernel
theorem dX2_factName_25 : decode cX2_factName 25 = .ok (.invokevirtual 96, 3) := by decide +kernel
theorem dX2_factName_28 : decode cX2_factName 28 = .ok (.ifCond .eq 5, 3) := by decide +kernel
theorem dX2_factName_31 : decode cX2_factName 31 = .ok (.iconst 2, 1) := by decide +kernel
theorem dX2_factName_32 : decode cX2_factName 32 = .ok (.ireturn, 1) := by decide +kernel
theorem dX2_factName_33 : decode cX2_factName 33 = .ok (.aload_n 0, 1) := by decide +kernel
theorem dX2_factName_34 : decode cX2_factName 34 = .ok (.ldc 146, 2) := by decide +kernel
theorem dX2_factName_36 : decode cX2_factName 36 = .ok (.invokevirtual 96, 3) := by decide +kernel
theorem dX2_factName_39 : decode cX2_factName 39 = .ok (.ifCond .eq 5, 3) := by decide +kernel
theorem dX2_factName_42 : decode cX2_factName 42 = .ok (.iconst 3, 1) := by decide +kernel
theorem dX2_factName_43 : decode cX2_factName 43 = .ok (.ireturn, 1) := by decide +kernel
theorem dX2_factName_44 : decode cX2_factName 44 = .ok (.aload_n 0, 1) := by decide +kernel
theorem dX2_factName_45 : decode cX2_factName 45 = .ok (.ldc 148, 2) := by decide +kernel
theorem dX2_factName_47 : decode cX2_factName 47 = .ok (.invokevirtual 96, 3) := by decide +kernel
theorem dX2_factName_50 : decode cX2_factName 50 = .ok (.ifCond .eq 5, 3) := by decide +kernel
theorem dX2_factName_53 : decode cX2_factName 53 = .ok (.iconst 4, 1) := by decide +kernel
theorem dX2_factName_54 : decode cX2_factName 54 = .ok (.ireturn, 1) := by decide +kernel
theorem dX2_factName_55 : decode cX2_factName 55 = .ok (.aload_n 0, 1) := by decide +kernel
theorem dX2_factName_56 : decode cX2_factName 56 = .ok (.ldc 150, 2) := by decide +kernel
theorem dX2_factName_58 : decode cX2_factName 58 = .ok (.invokevirtual 96, 3) := by decide +kernel
theorem dX2_factName_61 : decode cX2_factName 61 = .ok (.ifCond .eq 7, 3) := by decide +kernel
theorem dX2_factName_64 : decode cX2_factName 64 = .ok (.iconst 5, 1) := by decide +kernel
theorem dX2_factName_65 : decode cX2_factName 65 = .ok (.goto 4, 3) := by decide +kernel
theorem dX2_factName_68 : decode cX2_factName 68 = .ok (.iconst (-1), 1) := by decide +kernel
theorem dX2_factName_69 : decode cX2_factName 69 = .ok (.ireturn, 1) := by decide +kernel
theorem dX2_readEither_0 : decode cX2_readEither 0 = .ok (.aload_n 0, 1) := by decide +kernel
theorem dX2_readEither_1 : decode cX2_readEither 1 = .ok (.iload_n 1, 1) := by decide +kernel
theorem dX2_readEither_2 : decode cX2_readEither 2 = .ok (.invokevirtual 152, 3) := by decide +kernel
theorem dX2_readEither_5 : decode cX2_readEither 5 = .ok (.istore_n 2, 1) := by decide +kernel
theorem dX2_readEither_6 : decode cX2_readEither 6 = .ok (.iconst 0, 1) := by decide +kernel
theorem dX2_readEither_7 : decode cX2_readEither 7 = .ok (.istore_n 3, 1) := by decide +kernel
theorem dX2_readEither_8 : decode cX2_readEither 8 = .ok (.iload_n 3, 1) := by decide +kernel
theorem dX2_readEither_9 : decode cX2_readEither 9 = .ok (.aload_n 0, 1) := by decide +kernel
theorem dX2_readEither_10 : decode cX2_readEither 10 = .ok (.getfield 15, 3) := by decide +kernel
theorem dX2_readEither_13 : decode cX2_readEither 13 = .ok (.if_icmp .ge 42, 3) := by decide +kernel
theorem dX2_readEither_16 : decode cX2_readEither 16 = .ok (.iload_n 2, 1) := by decide +kernel
theorem dX2_readEither_17 : decode cX2_readEither 17 = .ok (.ifCond .eq 38, 3) := by decide +kernel
theorem dX2_readEither_20 : decode cX2_readEither 20 = .ok (.aload_n 0, 1) := by decide +kernel
theorem dX2_readEither_21 : decode cX2_readEither 21 = .ok (.ldc 155, 2) := by decide +kernel
theorem dX2_readEither_23 : decode cX2_readEither 23 = .ok (.invokevirtual 96, 3) := by decide +kernel
theorem dX2_readEither_26 : decode cX2_readEither 26 = .ok (.ifCond .eq 29, 3) := by decide +kernel
theorem dX2_readEither_29 : decode cX2_readEither 29 = .ok (.aload_n 0, 1) := by decide +kernel
theorem dX2_readEither_30 : decode cX2_readEither 30 = .ok (.invokevirtual 52, 3) := by decide +kernel
theorem dX2_readEither_33 : decode cX2_readEither 33 = .ok (.aload_n 0, 1) := by decide +kernel
theorem dX2_readEither_34 : decode cX2_readEither 34 = .ok (.iload_n 1, 1) := by decide +kernel
theorem dX2_readEither_35 : decode cX2_readEither 35 = .ok (.invokevirtual 152, 3) := by decide +kernel
theorem dX2_readEither_38 : decode cX2_readEither 38 = .ok (.istore_n 2, 1) := by decide +kernel
theorem dX2_readEither_39 : decode cX2_readEither 39 = .ok (.aload_n 0, 1) := by decide +kernel
theorem dX2_readEither_40 : decode cX2_readEither 40 = .ok (.getfield 19, 3) := by decide +kernel
theorem dX2_readEither_43 : decode cX2_readEither 43 = .ok (.sipush 2010, 3) := by decide +kernel
theorem dX2_readEither_46 : decode cX2_readEither 46 = .ok (.invokevirtual 119, 3) := by decide +kernel
theorem dX2_readEither_49 : decode cX2_readEither 49 = .ok (.iinc 3 1, 3) := by decide +kernel
theorem dX2_readEither_52 : decode cX2_readEither 52 = .ok (.goto (-44), 3) := by decide +kernel
theorem dX2_readEither_55 : decode cX2_readEither 55 = .ok (.iload_n 2, 1) := by decide +kernel
theorem dX2_readEither_56 : decode cX2_readEither 56 = .ok (.ireturn, 1) := by decide +kernel
theorem dX2_readBoth_0 : decode cX2_readBoth 0 = .ok (.aload_n 0, 1) := by decide +kernel
theorem dX2_readBoth_1 : decode cX2_readBoth 1 = .ok (.iload_n 1, 1) := by decide +kernel
theorem dX2_readBoth_2 : decode cX2_readBoth 2 = .ok (.invokevirtual 157, 3) := by decide +kernel
theorem dX2_readBoth_5 : decode cX2_readBoth 5 = .ok (.istore_n 2, 1) := by decide +kernel
theorem dX2_readBoth_6 : decode cX2_readBoth 6 = .ok (.iconst 0, 1) := by decide +kernel
theorem dX2_readBoth_7 : decode cX2_readBoth 7 = .ok (.istore_n 3, 1) := by decide +kernel
theorem dX2_readBoth_8 : decode cX2_readBoth 8 = .ok (.iload_n 3, 1) := by decide +kernel
theorem dX2_readBoth_9 : decode cX2_readBoth 9 = .ok (.aload_n 0, 1) := by decide +kernel
theorem dX2_readBoth_10 : decode cX2_readBoth 10 = .ok (.getfield 15, 3) := by decide +kernel
theorem dX2_readBoth_13 : decode cX2_readBoth 13 = .ok (.if_icmp .ge 42, 3) := by decide +kernel
theorem dX2_readBoth_16 : decode cX2_readBoth 16 = .ok (.iload_n 2, 1) := by decide +kernel
theorem dX2_readBoth_17 : decode cX2_readBoth 17 = .ok (.ifCond .eq 38, 3) := by decide +kernel
theorem dX2_readBoth_20 : decode cX2_readBoth 20 = .ok (.aload_n 0, 1) := by decide +kernel
theorem dX2_readBoth_21 : decode cX2_readBoth 21 = .ok (.ldc 160, 2) := by decide +kernel
theorem dX2_readBoth_23 : decode cX2_readBoth 23 = .ok (.invokevirtual 96, 3) := by decide +kernel
theorem dX2_readBoth_26 : decode cX2_readBoth 26 = .ok (.ifCond .eq 29, 3) := by decide +kernel
theorem dX2_readBoth_29 : decode cX2_readBoth 29 = .ok (.aload_n 0, 1) := by decide +kernel
theorem dX2_readBoth_30 : decode cX2_readBoth 30 = .ok (.invokevirtual 52, 3) := by decide +kernel
theorem dX2_readBoth_33 : decode cX2_readBoth 33 = .ok (.aload_n 0, 1) := by decide +kernel
theorem dX2_readBoth_34 : decode cX2_readBoth 34 = .ok (.iload_n 1, 1) := by decide +kernel
theorem dX2_readBoth_35 : decode cX2_readBoth 35 = .ok (.invokevirtual 157, 3) := by decide +kernel
theorem dX2_readBoth_38 : decode cX2_readBoth 38 = .ok (.istore_n 2, 1) := by decide +kernel
theorem dX2_readBoth_39 : decode cX2_readBoth 39 = .ok (.aload_n 0, 1) := by decide +kernel
theorem dX2_readBoth_40 : decode cX2_readBoth 40 = .ok (.getfield 19, 3) := by decide +kernel
theorem dX2_readBoth_43 : decode cX2_readBoth 43 = .ok (.sipush 2009, 3) := by decide +kernel
theorem dX2_readBoth_46 : decode cX2_readBoth 46 = .ok (.invokevirtual 119, 3) := by decide +kernel
theorem dX2_readBoth_49 : decode cX2_readBoth 49 = .ok (.iinc 3 1, 3) := by decide +kernel
theorem dX2_readBoth_52 : decode cX2_readBoth 52 = .ok (.goto (-44), 3) := by decide +kernel
theorem dX2_readBoth_55 : decode cX2_readBoth 55 = .ok (.iload_n 2, 1) := by decide +kernel
theorem dX2_readBoth_56 : decode cX2_readBoth 56 = .ok (.ireturn, 1) := by decide +kernel
theorem dX2_readBasic_0 : decode cX2_readBasic 0 = .ok (.aload_n 0, 1) := by decide +kernel
theorem dX2_readBasic_1 : decode cX2_readBasic 1 = .ok (.ldc 162, 2) := by decide +kernel
theorem dX2_readBasic_3 : decode cX2_readBasic 3 = .ok (.invokevirtual 96, 3) := by decide +kernel
theorem dX2_readBasic_6 : decode cX2_readBasic 6 = .ok (.ifCond .eq 39, 3) := by decide +kernel
theorem dX2_readBasic_9 : decode cX2_readBasic 9 = .ok (.iload_n 1, 1) := by decide +kernel
theorem dX2_readBasic_10 : decode cX2_readBasic 10 = .ok (.bipush 6, 2) := by decide +kernel
theorem dX2_readBasic_12 : decode cX2_readBasic 12 = .ok (.if_icmp .lt 9, 3) := by decide +kernel
theorem dX2_readBasic_15 : decode cX2_readBasic 15 = .ok (.aload_n 0, 1) := by decide +kernel
theorem dX2_readBasic_16 : decode cX2_readBasic 16 = .ok (.iconst 3, 1) := by decide +kernel
theorem dX2_readBasic_17 : decode cX2_readBasic 17 = .ok (.invokevirtual 78, 3) := by decide +kernel
theorem dX2_readBasic_20 : decode cX2_readBasic 20 = .ok (.ireturn, 1) := by decide +kernel
theorem dX2_readBasic_21 : decode cX2_readBasic 21 = .ok (.aload_n 0, 1) := by decide +kernel
theorem dX2_readBasic_22 : decode cX2_readBasic 22 = .ok (.invokevirtual 52, 3) := by decide +kernel
theorem dX2_readBasic_25 : decode cX2_readBasic 25 = .ok (.aload_n 0, 1) := by decide +kernel
theorem dX2_readBasic_26 : decode cX2_readBasic 26 = .ok (.iload_n 1, 1) := by decide +kernel
theorem dX2_readBasic_27 : decode cX2_readBasic 27 = .ok (.iconst 1, 1) := by decide +kernel
theorem dX2_readBasic_28 : decode cX2_readBasic 28 = .ok (.iadd, 1) := by decide +kernel
theorem dX2_readBasic_29 : decode cX2_readBasic 29 = .ok (.invokevirtual 157, 3) := by decide +kernel
theorem dX2_readBasic_32 : decode cX2_readBasic 32 = .ok (.istore_n 2, 1) := by decide +kernel
theorem dX2_readBasic_33 : decode cX2_readBasic 33 = .ok (.aload_n 0, 1) := by decide +kernel
theorem dX2_readBasic_34 : decode cX2_readBasic 34 = .ok (.getfield 19, 3) := by decide +kernel
theorem dX2_readBasic_37 : decode cX2_readBasic 37 = .ok (.sipush 2011, 3) := by decide +kernel
theorem dX2_readBasic_40 : decode cX2_readBasic 40 = .ok (.invokevirtual 119, 3) := by decide +kernel
theorem dX2_readBasic_43 : decode cX2_readBasic 43 = .ok (.iload_n 2, 1) := by decide +kernel
theorem dX2_readBasic_44 : decode cX2_readBasic 44 = .ok (.ireturn, 1) := by decide +kernel
theorem dX2_readBasic_45 : decode cX2_readBasic 45 = .ok (.aload_n 0, 1) := by decide +kernel
theorem dX2_readBasic_46 : decode cX2_readBasic 46 = .ok (.bipush 91, 2) := by decide +kernel
theorem dX2_readBasic_48 : decode cX2_readBasic 48 = .ok (.invokevirtual 74, 3) := by decide +kernel
theorem dX2_readBasic_51 : decode cX2_readBasic 51 = .ok (.ifCond .eq 38, 3) := by decide +kernel
theorem dX2_readBasic_54 : decode cX2_readBasic 54 = .ok (.aload_n 0, 1) := by decide +kernel
theorem dX2_readBasic_55 : decode cX2_readBasic 55 = .ok (.bipush 91, 2) := by decide +kernel
theorem dX2_readBasic_57 : decode cX2_readBasic 57 = .ok (.iload_n 1, 1) := by decide +kernel
theorem dX2_readBasic_58 : decode cX2_readBasic 58 = .ok (.invokevirtual 125, 3) := by decide +kernel
theorem dX2_readBasic_61 : decode cX2_readBasic 61 = .ok (.ifCond .eq 26, 3) := by decide +kernel
theorem dX2_readBasic_64 : decode cX2_readBasic 64 = .ok (.aload_n 0, 1) := by decide +kernel
theorem dX2_readBasic_65 : decode cX2_readBasic 65 = .ok (.iload_n 1, 1) := by decide +kernel
theorem dX2_readBasic_66 : decode cX2_readBasic 66 = .ok (.iconst 1, 1) := by decide +kernel
theorem dX2_readBasic_67 : decode cX2_readBasic 67 = .ok (.iadd, 1) := by decide +kernel
theorem dX2_readBasic_68 : decode cX2_readBasic 68 = .ok (.invokevirtual 99, 3) := by decide +kernel
theorem dX2_readBasic_71 : decode cX2_readBasic 71 = .ok (.ifCond .eq 16, 3) := by decide +kernel
theorem dX2_readBasic_74 : decode cX2_readBasic 74 = .ok (.aload_n 0, 1) := by decide +kernel
theorem dX2_readBasic_75 : decode cX2_readBasic 75 = .ok (.bipush 93, 2) := by decide +kernel
theorem dX2_readBasic_77 : decode cX2_readBasic 77 = .ok (.invokevirtual 105, 3) := by decide +kernel
theorem dX2_readBasic_80 : decode cX2_readBasic 80 = .ok (.ifCond .eq 7, 3) := by decide +kernel
theorem dX2_readBasic_83 : decode cX2_readBasic 83 = .ok (.iconst 1, 1) := by decide +kernel
theorem dX2_readBasic_84 : decode cX2_readBasic 84 = .ok (.goto 4, 3) := by decide +kernel
theorem dX2_readBasic_87 : decode cX2_readBasic 87 = .ok (.iconst 0, 1) := by decide +kernel
theorem dX2_readBasic_88 : decode cX2_readBasic 88 = .ok (.ireturn, 1) := by decide +kernel
theorem dX2_readBasic_89 : decode cX2_readBasic 89 = .ok (.aload_n 0, 1) := by decide +kernel
theorem dX2_readBasic_90 : decode cX2_readBasic 90 = .ok (.iload_n 1, 1) := by decide +kernel
theorem dX2_readBasic_91 : decode cX2_readBasic 91 = .ok (.invokevirtual 88, 3) := by decide +kernel
theorem dX2_readBasic_94 : decode cX2_readBasic 94 = .ok (.ifCond .ne 5, 3) := by decide +kernel
theorem dX2_readBasic_97 : decode cX2_readBasic 97 = .ok (.iconst 0, 1) := by decide +kernel
theorem dX2_readBasic_98 : decode cX2_readBasic 98 = .ok (.ireturn, 1) := by decide +kernel
theorem dX2_readBasic_99 : decode cX2_readBasic 99 = .ok (.aload_n 0, 1) := by decide +kernel
theorem dX2_readBasic_100 : decode cX2_readBasic 100 = .ok (.invokevirtual 164, 3) := by decide +kernel
theorem dX2_readBasic_103 : decode cX2_readBasic 103 = .ok (.istore_n 2, 1) := by decide +kernel
theorem dX2_readBasic_104 : decode cX2_readBasic 104 = .ok (.iload_n 2, 1) := by decide +kernel
theorem dX2_readBasic_105 : decode cX2_readBasic 105 = .ok (.iconst (-1), 1) := by decide +kernel
theorem dX2_readBasic_106 : decode cX2_readBasic 106 = .ok (.if_icmp .ne 9, 3) := by decide +kernel
theorem dX2_readBasic_109 : decode cX2_readBasic 109 = .ok (.aload_n 0, 1) := by decide +kernel
theorem dX2_readBasic_110 : decode cX2_readBasic 110 = .ok (.iconst 1, 1) := by decide +kernel
theorem dX2_readBasic_111 : decode cX2_readBasic 111 = .ok (.invokevirtual 78, 3) := by decide +kernel
theorem dX2_readBasic_114 : decode cX2_readBasic 114 = .ok (.ireturn, 1) := by decide +kernel
theorem dX2_readBasic_115 : decode cX2_readBasic 115 = .ok (.aload_n 0, 1) := by decide +kernel
theorem dX2_readBasic_116 : decode cX2_readBasic 116 = .ok (.invokevirtual 52, 3) := by decide +kernel
theorem dX2_readBasic_119 : decode cX2_readBasic 119 = .ok (.aload_n 0, 1) := by decide +kernel
theorem dX2_readBasic_120 : decode cX2_readBasic 120 = .ok (.iload_n 1, 1) := by decide +kernel
theorem dX2_readBasic_121 : decode cX2_readBasic 121 = .ok (.invokevirtual 88, 3) := by decide +kernel
theorem dX2_readBasic_124 : decode cX2_readBasic 124 = .ok (.istore_n 3, 1) := by decide +kernel
theorem dX2_readBasic_125 : decode cX2_readBasic 125 = .ok (.aload_n 0, 1) := by decide +kernel
theorem dX2_readBasic_126 : decode cX2_readBasic 126 = .ok (.getfield 19, 3) := by decide +kernel
theorem dX2_readBasic_129 : decode cX2_readBasic 129 = .ok (.iload_n 2, 1) := by decide +kernel
theorem dX2_readBasic_130 : decode cX2_readBasic 130 = .ok (.invokevirtual 119, 3) := by decide +kernel
theorem dX2_readBasic_133 : decode cX2_readBasic 133 = .ok (.iload_n 3, 1) := by decide +kernel
theorem dX2_readBasic_134 : decode cX2_readBasic 134 = .ok (.ireturn, 1) := by decide +kernel
theorem dX3_init_0 : decode cX3_init 0 = .ok (.aload_n 0, 1) := by decide +kernel
theorem dX3_init_1 : decode cX3_init 1 = .ok (.invokespecial 3, 3) := by decide +kernel
theorem dX3_init_4 : decode cX3_init 4 = .ok (.aload_n 0, 1) := by decide +kernel
theorem dX3_init_5 : decode cX3_init 5 = .ok (.iconst 0, 1) := by decide +kernel
theorem dX3_init_6 : decode cX3_init 6 = .ok (.putfield 9, 3) := by decide +kernel
theorem dX3_init_9 : decode cX3_init 9 = .ok (.aload_n 0, 1) := by decide +kernel
theorem dX3_init_10 : decode cX3_init 10 = .ok (.sipush 28500, 3) := by decide +kernel
theorem dX3_init_13 : decode cX3_init 13 = .ok (.newarray .int, 2) := by decide +kernel
theorem dX3_init_15 : decode cX3_init 15 = .ok (.putfield 15, 3) := by decide +kernel
theorem dX3_init_18 : decode cX3_init 18 = .ok (.aload_n 0, 1) := by decide +kernel
theorem dX3_init_19 : decode cX3_init 19 = .ok (.bipush 6, 2) := by decide +kernel
theorem dX3_init_21 : decode cX3_init 21 = .ok (.newarray .int, 2) := by decide +kernel
theorem dX3_init_23 : decode cX3_init 23 = .ok (.dup, 1) := by decide +kernel
theorem dX3_init_24 : decode cX3_init 24 = .ok (.iconst 0, 1) := by decide +kernel
theorem dX3_init_25 : decode cX3_init 25 = .ok (.iconst (-1), 1) := by decide +kernel
theorem dX3_init_26 : decode cX3_init 26 = .ok (.iastore, 1) := by decide +kernel
theorem dX3_init_27 : decode cX3_init 27 = .ok (.dup, 1) := by decide +kernel
theorem dX3_init_28 : decode cX3_init 28 = .ok (.iconst 1, 1) := by decide +kernel
theorem dX3_init_29 : decode cX3_init 29 = .ok (.iconst (-1), 1) := by decide +kernel
theorem dX3_init_30 : decode cX3_init 30 = .ok (.iastore, 1) := by decide +kernel
theorem dX3_init_31 : decode cX3_init 31 = .ok (.dup, 1) := by decide +kernel
theorem dX3_init_32 : decode cX3_init 32 = .ok (.iconst 2, 1) := by decide +kernel
theorem dX3_init_33 : decode cX3_init 33 = .ok (.iconst (-1), 1) := by decide +kernel
theorem dX3_init_34 : decode cX3_init 34 = .ok (.iastore, 1) := by decide +kernel
theorem dX3_init_35 : decode cX3_init 35 = .ok (.dup, 1) := by decide +kernel
theorem dX3_init_36 : decode cX3_init 36 = .ok (.iconst 3, 1) := by decide +kernel
theorem dX3_init_37 : decode cX3_init 37 = .ok (.iconst (-1), 1) := by decide +kernel
theorem dX3_init_38 : decode cX3_init 38 = .ok (.iastore, 1) := by decide +kernel
theorem dX3_init_39 : decode cX3_init 39 = .ok (.dup, 1) := by decide +kernel
theorem dX3_init_40 : decode cX3_init 40 = .ok (.iconst 4, 1) := by decide +kernel
theorem dX3_init_41 : decode cX3_init 41 = .ok (.iconst (-1), 1) := by decide +kernel
theorem dX3_init_42 : decode cX3_init 42 = .ok (.iastore, 1) := by decide +kernel
theorem dX3_init_43 : decode cX3_init 43 = .ok (.dup, 1) := by decide +kernel
theorem dX3_init_44 : decode cX3_init 44 = .ok (.iconst 5, 1) := by decide +kernel
theorem dX3_init_45 : decode cX3_init 45 = .ok (.iconst (-1), 1) := by decide +kernel
theorem dX3_init_46 : decode cX3_init 46 = .ok (.iastore, 1) := by decide +kernel
theorem dX3_init_47 : decode cX3_init 47 = .ok (.putfield 19, 3) := by decide +kernel
theorem dX3_init_50 : decode cX3_init 50 = .ok (.aload_n 0, 1) := by decide +kernel
theorem dX3_init_51 : decode cX3_init 51 = .ok (.bipush 6, 2) := by decide +kernel
theorem dX3_init_53 : decode cX3_init 53 = .ok (.newarray .int, 2) := by decide +kernel
theorem dX3_init_55 : decode cX3_init 55 = .ok (.dup, 1) := by decide +kernel
theorem dX3_init_56 : decode cX3_init 56 = .ok (.iconst 0, 1) := by decide +kernel
theorem dX3_init_57 : decode cX3_init 57 = .ok (.iconst (-1), 1) := by decide +kernel
theorem dX3_init_58 : decode cX3_init 58 = .ok (.iastore, 1) := by decide +kernel
theorem dX3_init_59 : decode cX3_init 59 = .ok (.dup, 1) := by decide +kernel
theorem dX3_init_60 : decode cX3_init 60 = .ok (.iconst 1, 1) := by decide +kernel
theorem dX3_init_61 : decode cX3_init 61 = .ok (.iconst (-1), 1) := by decide +kernel
theorem dX3_init_62 : decode cX3_init 62 = .ok (.iastore, 1) := by decide +kernel
theorem dX3_init_63 : decode cX3_init 63 = .ok (.dup, 1) := by decide +kernel
theorem dX3_init_64 : decode cX3_init 64 = .ok (.iconst 2, 1) := by decide +kernel
theorem dX3_init_65 : decode cX3_init 65 = .ok (.iconst (-1), 1) := by decide +kernel
theorem dX3_init_66 : decode cX3_init 66 = .ok (.iastore, 1) := by decide +kernel
theorem dX3_init_67 : decode cX3_init 67 = .ok (.dup, 1) := by decide +kernel
theorem dX3_init_68 : decode cX3_init 68 = .ok (.iconst 3, 1) := by decide +kernel
theorem dX3_init_69 : decode cX3_init 69 = .ok (.iconst (-1), 1) := by decide +kernel
theorem dX3_init_70 : decode cX3_init 70 = .ok (.iastore, 1) := by decide +kernel
theorem dX3_init_71 : decode cX3_init 71 = .ok (.dup, 1) := by decide +kernel
theorem dX3_init_72 : decode cX3_init 72 = .ok (.iconst 4, 1) := by decide +kernel
theorem dX3_init_73 : decode cX3_init 73 = .ok (.iconst (-1), 1) := by decide +kernel
theorem dX3_init_74 : decode cX3_init 74 = .ok (.iastore, 1) := by decide +kernel
theorem dX3_init_75 : decode cX3_init 75 = .ok (.dup, 1) := by decide +kernel
theorem dX3_init_76 : decode cX3_init 76 = .ok (.iconst 5, 1) := by decide +kernel
theorem dX3_init_77 : decode cX3_init 77 = .ok (.iconst (-1), 1) := by decide +kernel
theorem dX3_init_78 : decode cX3_init 78 = .ok (.iastore, 1) := by decide +kernel
theorem dX3_init_79 : decode cX3_init 79 = .ok (.putfield 22, 3) := by decide +kernel
theorem dX3_init_82 : decode cX3_init 82 = .ok (.aload_n 0, 1) := by decide +kernel
theorem dX3_init_83 : decode cX3_init 83 = .ok (.sipush 144, 3) := by decide +kernel
theorem dX3_init_86 : decode cX3_init 86 = .ok (.newarray .int, 2) := by decide +kernel
theorem dX3_init_88 : decode cX3_init 88 = .ok (.putfield 25, 3) := by decide +kernel
theorem dX3_init_91 : decode cX3_init 91 = .ok (.iconst 0, 1) := by decide +kernel
theorem dX3_init_92 : decode cX3_init 92 = .ok (.istore_n 1, 1) := by decide +kernel
theorem dX3_init_93 : decode cX3_init 93 = .ok (.iload_n 1, 1) := by decide +kernel
theorem dX3_init_94 : decode cX3_init 94 = .ok (.sipush 144, 3) := by decide +kernel
theorem dX3_init_97 : decode cX3_init 97 = .ok (.if_icmp .ge 16, 3) := by decide +kernel
theorem dX3_init_100 : decode cX3_init 100 = .ok (.aload_n 0, 1) := by decide +kernel
theorem dX3_init_101 : decode cX3_init 101 = .ok (.getfield 25, 3) := by decide +kernel
theorem dX3_init_104 : decode cX3_init 104 = .ok (.iload_n 1, 1) := by decide +kernel
theorem dX3_init_105 : decode cX3_init 105 = .ok (.iconst (-1), 1) := by decide +kernel
theorem dX3_init_106 : decode cX3_init 106 = .ok (.iastore, 1) := by decide +kernel
theorem dX3_init_107 : decode cX3_init 107 = .ok (.iinc 1 1, 3) := by decide +kernel
theorem dX3_init_110 : decode cX3_init 110 = .ok (.goto (-17), 3) := by decide +kernel
theorem dX3_init_113 : decode cX3_init 113 = .ok (.return_, 1) := by decide +kernel
theorem dX3_at_0 : decode cX3_at 0 = .ok (.aload_n 0, 1) := by decide +kernel
theorem dX3_at_1 : decode cX3_at 1 = .ok (.getfield 15, 3) := by decide +kernel
theorem dX3_at_4 : decode cX3_at 4 = .ok (.iload_n 1, 1) := by decide +kernel
theorem dX3_at_5 : decode cX3_at 5 = .ok (.bipush 19, 2) := by decide +kernel
theorem dX3_at_7 : decode cX3_at 7 = .ok (.imul, 1) := by decide +kernel
theorem dX3_at_8 : decode cX3_at 8 = .ok (.iload_n 2, 1) := by decide +kernel
theorem dX3_at_9 : decode cX3_at 9 = .ok (.iadd, 1) := by decide +kernel
theorem dX3_at_10 : decode cX3_at 10 = .ok (.iaload, 1) := by decide +kernel
theorem dX3_at_11 : decode cX3_at 11 = .ok (.ireturn, 1) := by decide +kernel
theorem dX3_write_0 : decode cX3_write 0 = .ok (.aload_n 0, 1) := by decide +kernel
theorem dX3_write_1 : decode cX3_write 1 = .ok (.getfield 9, 3) := by decide +kernel
theorem dX3_write_4 : decode cX3_write 4 = .ok (.sipush 1500, 3) := by decide +kernel
theorem dX3_write_7 : decode cX3_write 7 = .ok (.if_icmp .lt 4, 3) := by decide +kernel
theorem dX3_write_10 : decode cX3_write 10 = .ok (.return_, 1) := by decide +kernel
theorem dX3_write_11 : decode cX3_write 11 = .ok (.aload_n 0, 1) := by decide +kernel
theorem dX3_write_12 : decode cX3_write 12 = .ok (.getfield 9, 3) := by decide +kernel
theorem dX3_write_15 : decode cX3_write 15 = .ok (.bipush 19, 2) := by decide +kernel
theorem dX3_write_17 : decode cX3_write 17 = .ok (.imul, 1) := by decide +kernel
theorem dX3_write_18 : decode cX3_write 18 = .ok (.istore_n 3, 1) := by decide +kernel
theorem dX3_write_19 : decode cX3_write 19 = .ok (.aload_n 0, 1) := by decide +kernel
theorem dX3_write_20 : decode cX3_write 20 = .ok (.getfield 15, 3) := by decide +kernel
theorem dX3_write_23 : decode cX3_write 23 = .ok (.iload_n 3, 1) := by decide +kernel
theorem dX3_write_24 : decode cX3_write 24 = .ok (.iconst 0, 1) := by decide +kernel
theorem dX3_write_25 : decode cX3_write 25 = .ok (.iadd, 1) := by decide +kernel
theorem dX3_write_26 : decode cX3_write 26 = .ok (.aload_n 1, 1) := by decide +kernel
theorem dX3_write_27 : decode cX3_write 27 = .ok (.getfield 28, 3) := by decide +kernel
theorem dX3_write_30 : decode cX3_write 30 = .ok (.iastore, 1) := by decide +kernel
theorem dX3_write_31 : decode cX3_write 31 = .ok (.aload_n 0, 1) := by decide +kernel
theorem dX3_write_32 : decode cX3_write 32 = .ok (.getfield 15, 3) := by decide +kernel
theorem dX3_write_35 : decode cX3_write 35 = .ok (.iload_n 3, 1) := by decide +kernel
theorem dX3_write_36 : decode cX3_write 36 = .ok (.iconst 1, 1) := by decide +kernel
theorem dX3_write_37 : decode cX3_write 37 = .ok (.iadd, 1) := by decide +kernel
theorem dX3_write_38 : decode cX3_write 38 = .ok (.aload_n 2, 1) := by decide +kernel
theorem dX3_write_39 : decode cX3_write 39 = .ok (.getfield 33, 3) := by decide +kernel
theorem dX3_write_42 : decode cX3_write 42 = .ok (.iastore, 1) := by decide +kernel
theorem dX3_write_43 : decode cX3_write 43 = .ok (.aload_n 0, 1) := by decide +kernel
theorem dX3_write_44 : decode cX3_write 44 = .ok (.getfield 15, 3) := by decide +kernel
theorem dX3_write_47 : decode cX3_write 47 = .ok (.iload_n 3, 1) := by decide +kernel
theorem dX3_write_48 : decode cX3_write 48 = .ok (.iconst 2, 1) := by decide +kernel
theorem dX3_write_49 : decode cX3_write 49 = .ok (.iadd, 1) := by decide +kernel
theorem dX3_write_50 : decode cX3_write 50 = .ok (.aload_n 2, 1) := by decide +kernel
theorem dX3_write_51 : decode cX3_write 51 = .ok (.getfield 38, 3) := by decide +kernel
theorem dX3_write_54 : decode cX3_write 54 = .ok (.iastore, 1) := by decide +kernel
theorem dX3_write_55 : decode cX3_write 55 = .ok (.aload_n 0, 1) := by decide +kernel
theorem dX3_write_56 : decode cX3_write 56 = .ok (.getfield 15, 3) := by decide +kernel
theorem dX3_write_59 : decode cX3_write 59 = .ok (.iload_n 3, 1) := by decide +kernel
theorem dX3_write_60 : decode cX3_write 60 = .ok (.bipush 6, 2) := by decide +kernel
theorem dX3_write_62 : decode cX3_write 62 = .ok (.iadd, 1) := by decide +kernel
theorem dX3_write_63 : decode cX3_write 63 = .ok (.aload_n 2, 1) := by decide +kernel
theorem dX3_write_64 : decode cX3_write 64 = .ok (.getfield 41, 3) := by decide +kernel
theorem dX3_write_67 : decode cX3_write 67 = .ok (.iastore, 1) := by decide +kernel
theorem dX3_write_68 : decode cX3_write 68 = .ok (.aload_n 0, 1) := by decide +kernel
theorem dX3_write_69 : decode cX3_write 69 = .ok (.getfield 15, 3) := by decide +kernel
theorem dX3_write_72 : decode cX3_write 72 = .ok (.iload_n 3, 1) := by decide +kernel
theorem dX3_write_73 : decode cX3_write 73 = .ok (.bipush 10, 2) := by decide +kernel
theorem dX3_write_75 : decode cX3_write 75 = .ok (.iadd, 1) := by decide +kernel
theorem dX3_write_76 : decode cX3_write 76 = .ok (.aload_n 2, 1) := by decide +kernel
theorem dX3_write_77 : decode cX3_write 77 = .ok (.getfield 44, 3) := by decide +kernel
theorem dX3_write_80 : decode cX3_write 80 = .ok (.iastore, 1) := by decide +kernel
theorem dX3_write_81 : decode cX3_write 81 = .ok (.iconst 0, 1) := by decide +kernel
theorem dX3_write_82 : decode cX3_write 82 = .ok (.istore 4, 2) := by decide +kernel
theorem dX3_write_84 : decode cX3_write 84 = .ok (.iload 4, 2) := by decide +kernel
theorem dX3_write_86 : decode cX3_write 86 = .ok (.iconst 3, 1) := by decide +kernel
theorem dX3_write_87 : decode cX3_write 87 = .ok (.if_icmp .ge 65, 3) := by decide +kernel
theorem dX3_write_90 : decode cX3_write 90 = .ok (.aload_n 0, 1) := by decide +kernel
theorem dX3_write_91 : decode cX3_write 91 = .ok (.getfield 15, 3) := by decide +kernel
theorem dX3_write_94 : decode cX3_write 94 = .ok (.iload_n 3, 1) := by decide +kernel
theorem dX3_write_95 : decode cX3_write 95 = .ok (.iconst 3, 1) := by decide +kernel
theorem dX3_write_96 : decode cX3_write 96 = .ok (.iadd, 1) := by decide +kernel
theorem dX3_write_97 : decode cX3_write 97 = .ok (.iload 4, 2) := by decide +kernel
theorem dX3_write_99 : decode cX3_write 99 = .ok (.iadd, 1) := by decide +kernel
theorem dX3_write_100 : decode cX3_write 100 = .ok (.aload_n 2, 1) := by decide +kernel
theorem dX3_write_101 : decode cX3_write 101 = .ok (.getfield 47, 3) := by decide +kernel
theorem dX3_write_104 : decode cX3_write 104 = .ok (.iload 4, 2) := by decide +kernel
theorem dX3_write_106 : decode cX3_write 106 = .ok (.iaload, 1) := by decide +kernel
theorem dX3_write_107 : decode cX3_write 107 = .ok (.iastore, 1) := by decide +kernel
theorem dX3_write_108 : decode cX3_write 108 = .ok (.aload_n 0, 1) := by decide +kernel
theorem dX3_write_109 : decode cX3_write 109 = .ok (.getfield 15, 3) := by decide +kernel
theorem dX3_write_112 : decode cX3_write 112 = .ok (.iload_n 3, 1) := by decide +kernel
theorem dX3_write_113 : decode cX3_write 113 = .ok (.bipush 7, 2) := by decide +kernel
theorem dX3_write_115 : decode cX3_write 115 = .ok (.iadd, 1) := by decide +kernel
theorem dX3_write_116 : decode cX3_write 116 = .ok (.iload 4, 2) := by decide +kernel
theorem dX3_write_118 : decode cX3_write 118 = .ok (.iadd, 1) := by decide +kernel
theorem dX3_write_119 : decode cX3_write 119 = .ok (.aload_n 2, 1) := by decide +kernel
theorem dX3_write_120 : decode cX3_write 120 = .ok (.getfield 50, 3) := by decide +kernel
theorem dX3_write_123 : decode cX3_write 123 = .ok (.iload 4, 2) := by decide +kernel
theorem dX3_write_125 : decode cX3_write 125 = .ok (.iaload, 1) := by decide +kernel
theorem dX3_write_126 : decode cX3_write 126 = .ok (.iastore, 1) := by decide +kernel
theorem dX3_write_127 : decode cX3_write 127 = .ok (.aload_n 0, 1) := by decide +kernel
theorem dX3_write_128 : decode cX3_write 128 = .ok (.getfield 15, 3) := by decide +kernel
theorem dX3_write_131 : decode cX3_write 131 = .ok (.iload_n 3, 1) := by decide +kernel
theorem dX3_write_132 : decode cX3_write 132 = .ok (.bipush 11, 2) := by decide +kernel
theorem dX3_write_134 : decode cX3_write 134 = .ok (.iadd, 1) := by decide +kernel
theorem dX3_write_135 : decode cX3_write 135 = .ok (.iload 4, 2) := by decide +kernel
theorem dX3_write_137 : decode cX3_write 137 = .ok (.iadd, 1) := by decide +kernel
theorem dX3_write_138 : decode cX3_write 138 = .ok (.aload_n 2, 1) := by decide +kernel
theorem dX3_write_139 : decode cX3_write 139 = .ok (.getfield 53, 3) := by decide +kernel
theorem dX3_write_142 : decode cX3_write 142 = .ok (.iload 4, 2) := by decide +kernel
theorem dX3_write_144 : decode cX3_write 144 = .ok (.iaload, 1) := by decide +kernel
theorem dX3_write_145 : decode cX3_write 145 = .ok (.iastore, 1) := by decide +kernel
theorem dX3_write_146 : decode cX3_write 146 = .ok (.iinc 4 1, 3) := by decide +kernel
theorem dX3_write_149 : decode cX3_write 149 = .ok (.goto (-65), 3) := by decide +kernel
theorem dX3_write_152 : decode cX3_write 152 = .ok (.aload_n 0, 1) := by decide +kernel
theorem dX3_write_153 : decode cX3_write 153 = .ok (.getfield 15, 3) := by decide +kernel
theorem dX3_write_156 : decode cX3_write 156 = .ok (.iload_n 3, 1) := by decide +kernel
theorem dX3_write_157 : decode cX3_write 157 = .ok (.bipush 14, 2) := by decide +kernel
theorem dX3_write_159 : decode cX3_write 159 = .ok (.iadd, 1) := by decide +kernel
theorem dX3_write_160 : decode cX3_write 160 = .ok (.aload_n 2, 1) := by decide +kernel
theorem dX3_write_161 : decode cX3_write 161 = .ok (.getfield 56, 3) := by decide +kernel
theorem dX3_write_164 : decode cX3_write 164 = .ok (.ifCond .eq 7, 3) := by decide +kernel
theorem dX3_write_167 : decode cX3_write 167 = .ok (.iconst 1, 1) := by decide +kernel
theorem dX3_write_168 : decode cX3_write 168 = .ok (.goto 4, 3) := by decide +kernel
theorem dX3_write_171 : decode cX3_write 171 = .ok (.iconst 0, 1) := by decide +kernel
theorem dX3_write_172 : decode cX3_write 172 = .ok (.iastore, 1) := by decide +kernel
theorem dX3_write_173 : decode cX3_write 173 = .ok (.aload_n 0, 1) := by decide +kernel
theorem dX3_write_174 : decode cX3_write 174 = .ok (.getfield 15, 3) := by decide +kernel
theorem dX3_write_177 : decode cX3_write 177 = .ok (.iload_n 3, 1) := by decide +kernel
theorem dX3_write_178 : decode cX3_write 178 = .ok (.bipush 15, 2) := by decide +kernel
theorem dX3_write_180 : decode cX3_write 180 = .ok (.iadd, 1) := by decide +kernel
theorem dX3_write_181 : decode cX3_write 181 = .ok (.aload_n 2, 1) := by decide +kernel
theorem dX3_write_182 : decode cX3_write 182 = .ok (.getfield 60, 3) := by decide +kernel
theorem dX3_write_185 : decode cX3_write 185 = .ok (.ifCond .eq 7, 3) := by decide +kernel
theorem dX3_write_188 : decode cX3_write 188 = .ok (.iconst 1, 1) := by decide +kernel
theorem dX3_write_189 : decode cX3_write 189 = .ok (.goto 4, 3) := by decide +kernel
theorem dX3_write_192 : decode cX3_write 192 = .ok (.iconst 0, 1) := by decide +kernel
theorem dX3_write_193 : decode cX3_write 193 = .ok (.iastore, 1) := by decide +kernel
theorem dX3_write_194 : decode cX3_write 194 = .ok (.aload_n 0, 1) := by decide +kernel
theorem dX3_write_195 : decode cX3_write 195 = .ok (.getfield 15, 3) := by decide +kernel
theorem dX3_write_198 : decode cX3_write 198 = .ok (.iload_n 3, 1) := by decide +kernel
theorem dX3_write_199 : decode cX3_write 199 = .ok (.bipush 16, 2) := by decide +kernel
theorem dX3_write_201 : decode cX3_write 201 = .ok (.iadd, 1) := by decide +kernel
theorem dX3_write_202 : decode cX3_write 202 = .ok (.aload_n 2, 1) := by decide +kernel
theorem dX3_write_203 : decode cX3_write 203 = .ok (.getfield 63, 3) := by decide +kernel
theorem dX3_write_206 : decode cX3_write 206 = .ok (.iastore, 1) := by decide +kernel
theorem dX3_write_207 : decode cX3_write 207 = .ok (.aload_n 0, 1) := by decide +kernel
theorem dX3_write_208 : decode cX3_write 208 = .ok (.getfield 15, 3) := by decide +kernel
theorem dX3_write_211 : decode cX3_write 211 = .ok (.iload_n 3, 1) := by decide +kernel
theorem dX3_write_212 : decode cX3_write 212 = .ok (.bipush 17, 2) := by decide +kernel
theorem dX3_write_214 : decode cX3_write 214 = .ok (.iadd, 1) := by decide +kernel
theorem dX3_write_215 : decode cX3_write 215 = .ok (.aload_n 1, 1) := by decide +kernel
theorem dX3_write_216 : decode cX3_write 216 = .ok (.getfield 66, 3) := by decide +kernel
theorem dX3_write_219 : decode cX3_write 219 = .ok (.aload_n 2, 1) := by decide +kernel
theorem dX3_write_220 : decode cX3_write 220 = .ok (.getfield 33, 3) := by decide +kernel
theorem dX3_write_223 : decode cX3_write 223 = .ok (.iaload, 1) := by decide +kernel
theorem dX3_write_224 : decode cX3_write 224 = .ok (.iastore, 1) := by decide +kernel
theorem dX3_write_225 : decode cX3_write 225 = .ok (.aload_n 0, 1) := by decide +kernel
theorem dX3_write_226 : decode cX3_write 226 = .ok (.getfield 15, 3) := by decide +kernel
theorem dX3_write_229 : decode cX3_write 229 = .ok (.iload_n 3, 1) := by decide +kernel
theorem dX3_write_230 : decode cX3_write 230 = .ok (.bipush 18, 2) := by decide +kernel
theorem dX3_write_232 : decode cX3_write 232 = .ok (.iadd, 1) := by decide +kernel
theorem dX3_write_233 : decode cX3_write 233 = .ok (.aload_n 1, 1) := by decide +kernel
theorem dX3_write_234 : decode cX3_write 234 = .ok (.getfield 66, 3) := by decide +kernel
theorem dX3_write_237 : decode cX3_write 237 = .ok (.aload_n 2, 1) := by decide +kernel
theorem dX3_write_238 : decode cX3_write 238 = .ok (.getfield 38, 3) := by decide +kernel
theorem dX3_write_241 : decode cX3_write 241 = .ok (.iaload, 1) := by decide +kernel
theorem dX3_write_242 : decode cX3_write 242 = .ok (.iastore, 1) := by decide +kernel
theorem dX3_write_243 : decode cX3_write 243 = .ok (.aload_n 0, 1) := by decide +kernel
theorem dX3_write_244 : decode cX3_write 244 = .ok (.dup, 1) := by decide +kernel
theorem dX3_write_245 : decode cX3_write 245 = .ok (.getfield 9, 3) := by decide +kernel
theorem dX3_write_248 : decode cX3_write 248 = .ok (.iconst 1, 1) := by decide +kernel
theorem dX3_write_249 : decode cX3_write 249 = .ok (.iadd, 1) := by decide +kernel
theorem dX3_write_250 : decode cX3_write 250 = .ok (.putfield 9, 3) := by decide +kernel
theorem dX3_write_253 : decode cX3_write 253 = .ok (.return_, 1) := by decide +kernel
theorem dX3_hasSigns_0 : decode cX3_hasSigns 0 = .ok (.iconst 0, 1) := by decide +kernel
theorem dX3_hasSigns_1 : decode cX3_hasSigns 1 = .ok (.istore_n 3, 1) := by decide +kernel
theorem dX3_hasSigns_2 : decode cX3_hasSigns 2 = .ok (.iload_n 3, 1) := by decide +kernel
theorem dX3_hasSigns_3 : decode cX3_hasSigns 3 = .ok (.iconst 3, 1) := by decide +kernel
theorem dX3_hasSigns_4 : decode cX3_hasSigns 4 = .ok (.if_icmp .ge 29, 3) := by decide +kernel
theorem dX3_hasSigns_7 : decode cX3_hasSigns 7 = .ok (.aload_n 0, 1) := by decide +kernel
theorem dX3_hasSigns_8 : decode cX3_hasSigns 8 = .ok (.iload_n 1, 1) := by decide +kernel
theorem dX3_hasSigns_9 : decode cX3_hasSigns 9 = .ok (.bipush 7, 2) := by decide +kernel
theorem dX3_hasSigns_11 : decode cX3_hasSigns 11 = .ok (.iload_n 3, 1) := by decide +kernel
theorem dX3_hasSigns_12 : decode cX3_hasSigns 12 = .ok (.iadd, 1) := by decide +kernel
theorem dX3_hasSigns_13 : decode cX3_hasSigns 13 = .ok (.invokevirtual 69, 3) := by decide +kernel
theorem dX3_hasSigns_16 : decode cX3_hasSigns 16 = .ok (.aload_n 2, 1) := by decide +kernel
theorem dX3_hasSigns_17 : decode cX3_hasSigns 17 = .ok (.getfield 50, 3) := by decide +kernel
theorem dX3_hasSigns_20 : decode cX3_hasSigns 20 = .ok (.iload_n 3, 1) := by decide +kernel
theorem dX3_hasSigns_21 : decode cX3_hasSigns 21 = .ok (.iaload, 1) := by decide +kernel
theorem dX3_hasSigns_22 : decode cX3_hasSigns 22 = .ok (.if_icmp .eq 5, 3) := by decide +kernel
theorem dX3_hasSigns_25 : decode cX3_hasSigns 25 = .ok (.iconst 0, 1) := by decide +kernel
theorem dX3_hasSigns_26 : decode cX3_hasSigns 26 = .ok (.ireturn, 1) := by decide +kernel
theorem dX3_hasSigns_27 : decode cX3_hasSigns 27 = .ok (.iinc 3 1, 3) := by decide +kernel
theorem dX3_hasSigns_30 : decode cX3_hasSigns 30 = .ok (.goto (-28), 3) := by decide +kernel
theorem dX3_hasSigns_33 : decode cX3_hasSigns 33 = .ok (.iconst 1, 1) := by decide +kernel
theorem dX3_hasSigns_34 : decode cX3_hasSigns 34 = .ok (.ireturn, 1) := by decide +kernel
theorem dX3_isLearnt_0 : decode cX3_isLearnt 0 = .ok (.aload_n 0, 1) := by decide +kernel
theorem dX3_isLearnt_1 : decode cX3_isLearnt 1 = .ok (.iload_n 1, 1) := by decide +kernel
theorem dX3_isLearnt_2 : decode cX3_isLearnt 2 = .ok (.iconst 2, 1) := by decide +kernel
theorem dX3_isLearnt_3 : decode cX3_isLearnt 3 = .ok (.invokevirtual 69, 3) := by decide +kernel
theorem dX3_isLearnt_6 : decode cX3_isLearnt 6 = .ok (.iload_n 2, 1) := by decide +kernel
theorem dX3_isLearnt_7 : decode cX3_isLearnt 7 = .ok (.if_icmp .ne 18, 3) := by decide +kernel
theorem dX3_isLearnt_10 : decode cX3_isLearnt 10 = .ok (.aload_n 0, 1) := by decide +kernel
theorem dX3_isLearnt_11 : decode cX3_isLearnt 11 = .ok (.iload_n 1, 1) := by decide +kernel
theorem dX3_isLearnt_12 : decode cX3_isLearnt 12 = .ok (.bipush 16, 2) := by decide +kernel
theorem dX3_isLearnt_14 : decode cX3_isLearnt 14 = .ok (.invokevirtual 69, 3) := by decide +kernel
theorem dX3_isLearnt_17 : decode cX3_isLearnt 17 = .ok (.iload_n 3, 1) := by decide +kernel
theorem dX3_isLearnt_18 : decode cX3_isLearnt 18 = .ok (.if_icmp .ne 7, 3) := by decide +kernel
theorem dX3_isLearnt_21 : decode cX3_isLearnt 21 = .ok (.iconst 1, 1) := by decide +kernel
theorem dX3_isLearnt_22 : decode cX3_isLearnt 22 = .ok (.goto 4, 3) := by decide +kernel
theorem dX3_isLearnt_25 : decode cX3_isLearnt 25 = .ok (.iconst 0, 1) := by decide +kernel
theorem dX3_isLearnt_26 : decode cX3_isLearnt 26 = .ok (.ireturn, 1) := by decide +kernel
theorem dX3_askWhatIsHeld_0 : decode cX3_askWhatIsHeld 0 = .ok (.iconst 0, 1) := by decide +kernel
theorem dX3_askWhatIsHeld_1 : decode cX3_askWhatIsHeld 1 = .ok (.istore 4, 2) := by decide +kernel
theorem dX3_askWhatIsHeld_3 : decode cX3_askWhatIsHeld 3 = .ok (.iload 4, 2) := by decide +kernel
theorem dX3_askWhatIsHeld_5 : decode cX3_askWhatIsHeld 5 = .ok (.bipush 6, 2) := by decide +kernel
theorem dX3_askWhatIsHeld_7 : decode cX3_askWhatIsHeld 7 = .ok (.if_icmp .ge 85, 3) := by decide +kernel
theorem dX3_askWhatIsHeld_10 : decode cX3_askWhatIsHeld 10 = .ok (.iload_n 3, 1) := by decide +kernel
theorem dX3_askWhatIsHeld_11 : decode cX3_askWhatIsHeld 11 = .ok (.bipush 6, 2) := by decide +kernel
theorem dX3_askWhatIsHeld_13 : decode cX3_askWhatIsHeld 13 = .ok (.imul, 1) := by decide +kernel
theorem dX3_askWhatIsHeld_14 : decode cX3_askWhatIsHeld 14 = .ok (.iload 4, 2) := by decide +kernel
theorem dX3_askWhatIsHeld_16 : decode cX3_askWhatIsHeld 16 = .ok (.iadd, 1) := by decide +kernel
theorem dX3_askWhatIsHeld_17 : decode cX3_askWhatIsHeld 17 = .ok (.istore 5, 2) := by decide +kernel
theorem dX3_askWhatIsHeld_19 : decode cX3_askWhatIsHeld 19 = .ok (.aload_n 0, 1) := by decide +kernel
theorem dX3_askWhatIsHeld_20 : decode cX3_askWhatIsHeld 20 = .ok (.getfield 25, 3) := by decide +kernel
theorem dX3_askWhatIsHeld_23 : decode cX3_askWhatIsHeld 23 = .ok (.iload 5, 2) := by decide +kernel
theorem dX3_askWhatIsHeld_25 : decode cX3_askWhatIsHeld 25 = .ok (.iaload, 1) := by decide +kernel
theorem dX3_askWhatIsHeld_26 : decode cX3_askWhatIsHeld 26 = .ok (.iconst (-1), 1) := by decide +kernel
theorem dX3_askWhatIsHeld_27 : decode cX3_askWhatIsHeld 27 = .ok (.if_icmp .ne 59, 3) := by decide +kernel
theorem dX3_askWhatIsHeld_30 : decode cX3_askWhatIsHeld 30 = .ok (.aload_n 2, 1) := by decide +kernel
theorem dX3_askWhatIsHeld_31 : decode cX3_askWhatIsHeld 31 = .ok (.aload_n 1, 1) := by decide +kernel
theorem dX3_askWhatIsHeld_32 : decode cX3_askWhatIsHeld 32 = .ok (.iload_n 3, 1) := by decide +kernel
theorem dX3_askWhatIsHeld_33 : decode cX3_askWhatIsHeld 33 = .ok (.iload 4, 2) := by decide +kernel
theorem dX3_askWhatIsHeld_35 : decode cX3_askWhatIsHeld 35 = .ok (.invokevirtual 73, 3) := by decide +kernel
theorem dX3_askWhatIsHeld_38 : decode cX3_askWhatIsHeld 38 = .ok (.ifCond .eq 48, 3) := by decide +kernel
theorem dX3_askWhatIsHeld_41 : decode cX3_askWhatIsHeld 41 = .ok (.aload_n 0, 1) := by decide +kernel
theorem dX3_askWhatIsHeld_42 : decode cX3_askWhatIsHeld 42 = .ok (.getfield 25, 3) := by decide +kernel
theorem dX3_askWhatIsHeld_45 : decode cX3_askWhatIsHeld 45 = .ok (.iload 5, 2) := by decide +kernel
theorem dX3_askWhatIsHeld_47 : decode cX3_askWhatIsHeld 47 = .ok (.aload_n 0, 1) := by decide +kernel
theorem dX3_askWhatIsHeld_48 : decode cX3_askWhatIsHeld 48 = .ok (.getfield 9, 3) := by decide +kernel
theorem dX3_askWhatIsHeld_51 : decode cX3_askWhatIsHeld 51 = .ok (.iconst 1, 1) := by decide +kernel
theorem dX3_askWhatIsHeld_52 : decode cX3_askWhatIsHeld 52 = .ok (.isub, 1) := by decide +kernel
theorem dX3_askWhatIsHeld_53 : decode cX3_askWhatIsHeld 53 = .ok (.iastore, 1) := by decide +kernel
theorem dX3_askWhatIsHeld_54 : decode cX3_askWhatIsHeld 54 = .ok (.aload_n 0, 1) := by decide +kernel
theorem dX3_askWhatIsHeld_55 : decode cX3_askWhatIsHeld 55 = .ok (.getfield 22, 3) := by decide +kernel
theorem dX3_askWhatIsHeld_58 : decode cX3_askWhatIsHeld 58 = .ok (.iload 4, 2) := by decide +kernel
theorem dX3_askWhatIsHeld_60 : decode cX3_askWhatIsHeld 60 = .ok (.iaload, 1) := by decide +kernel
theorem dX3_askWhatIsHeld_61 : decode cX3_askWhatIsHeld 61 = .ok (.iconst (-1), 1) := by decide +kernel
theorem dX3_askWhatIsHeld_62 : decode cX3_askWhatIsHeld 62 = .ok (.if_icmp .ne 24, 3) := by decide +kernel
theorem dX3_askWhatIsHeld_65 : decode cX3_askWhatIsHeld 65 = .ok (.aload_n 0, 1) := by decide +kernel
theorem dX3_askWhatIsHeld_66 : decode cX3_askWhatIsHeld 66 = .ok (.getfield 22, 3) := by decide +kernel
theorem dX3_askWhatIsHeld_69 : decode cX3_askWhatIsHeld 69 = .ok (.iload 4, 2) := by decide +kernel
theorem dX3_askWhatIsHeld_71 : decode cX3_askWhatIsHeld 71 = .ok (.aload_n 0, 1) := by decide +kernel
theorem dX3_askWhatIsHeld_72 : decode cX3_askWhatIsHeld 72 = .ok (.getfield 9, 3) := by decide +kernel
theorem dX3_askWhatIsHeld_75 : decode cX3_askWhatIsHeld 75 = .ok (.iconst 1, 1) := by decide +kernel
theorem dX3_askWhatIsHeld_76 : decode cX3_askWhatIsHeld 76 = .ok (.isub, 1) := by decide +kernel
theorem dX3_askWhatIsHeld_77 : decode cX3_askWhatIsHeld 77 = .ok (.iastore, 1) := by decide +kernel
theorem dX3_askWhatIsHeld_78 : decode cX3_askWhatIsHeld 78 = .ok (.aload_n 0, 1) := by decide +kernel
theorem dX3_askWhatIsHeld_79 : decode cX3_askWhatIsHeld 79 = .ok (.getfield 19, 3) := by decide +kernel
theorem dX3_askWhatIsHeld_82 : decode cX3_askWhatIsHeld 82 = .ok (.iload 4, 2) := by decide +kernel
theorem dX3_askWhatIsHeld_84 : decode cX3_askWhatIsHeld 84 = .ok (.iload_n 3, 1) := by decide +kernel
theorem dX3_askWhatIsHeld_85 : decode cX3_askWhatIsHeld 85 = .ok (.iastore, 1) := by decide +kernel
theorem dX3_askWhatIsHeld_86 : decode cX3_askWhatIsHeld 86 = .ok (.iinc 4 1, 3) := by decide +kernel
theorem dX3_askWhatIsHeld_89 : decode cX3_askWhatIsHeld 89 = .ok (.goto (-86), 3) := by decide +kernel
theorem dX3_askWhatIsHeld_92 : decode cX3_askWhatIsHeld 92 = .ok (.return_, 1) := by decide +kernel
theorem dX4_init_0 : decode cX4_init 0 = .ok (.aload_n 0, 1) := by decide +kernel
theorem dX4_init_1 : decode cX4_init 1 = .ok (.invokespecial 3, 3) := by decide +kernel
theorem dX4_init_4 : decode cX4_init 4 = .ok (.aload_n 0, 1) := by decide +kernel
theorem dX4_init_5 : decode cX4_init 5 = .ok (.bipush 6, 2) := by decide +kernel
theorem dX4_init_7 : decode cX4_init 7 = .ok (.newarray .int, 2) := by decide +kernel
theorem dX4_init_9 : decode cX4_init 9 = .ok (.putfield 11, 3) := by decide +kernel
theorem dX4_init_12 : decode cX4_init 12 = .ok (.aload_n 0, 1) := by decide +kernel
theorem dX4_init_13 : decode cX4_init 13 = .ok (.sipush 300, 3) := by decide +kernel
theorem dX4_init_16 : decode cX4_init 16 = .ok (.newarray .int, 2) := by decide +kernel
theorem dX4_init_18 : decode cX4_init 18 = .ok (.putfield 17, 3) := by decide +kernel
theorem dX4_init_21 : decode cX4_init 21 = .ok (.aload_n 0, 1) := by decide +kernel
theorem dX4_init_22 : decode cX4_init 22 = .ok (.aconst_null, 1) := by decide +kernel
theorem dX4_init_23 : decode cX4_init 23 = .ok (.putfield 20, 3) := by decide +kernel
theorem dX4_init_26 : decode cX4_init 26 = .ok (.aload_n 0, 1) := by decide +kernel
theorem dX4_init_27 : decode cX4_init 27 = .ok (.iconst (-1), 1) := by decide +kernel
theorem dX4_init_28 : decode cX4_init 28 = .ok (.putfield 24, 3) := by decide +kernel
theorem dX4_init_31 : decode cX4_init 31 = .ok (.return_, 1) := by decide +kernel
theorem dX4_use_0 : decode cX4_use 0 = .ok (.aload_n 0, 1) := by decide +kernel
theorem dX4_use_1 : decode cX4_use 1 = .ok (.aload_n 1, 1) := by decide +kernel
theorem dX4_use_2 : decode cX4_use 2 = .ok (.putfield 20, 3) := by decide +kernel
theorem dX4_use_5 : decode cX4_use 5 = .ok (.aload_n 0, 1) := by decide +kernel
theorem dX4_use_6 : decode cX4_use 6 = .ok (.iload_n 2, 1) := by decide +kernel
theorem dX4_use_7 : decode cX4_use 7 = .ok (.putfield 24, 3) := by decide +kernel
theorem dX4_use_10 : decode cX4_use 10 = .ok (.return_, 1) := by decide +kernel
theorem dX4_ofChild_0 : decode cX4_ofChild 0 = .ok (.aload_n 0, 1) := by decide +kernel
theorem dX4_ofChild_1 : decode cX4_ofChild 1 = .ok (.getfield 11, 3) := by decide +kernel
theorem dX4_ofChild_4 : decode cX4_ofChild 4 = .ok (.iconst 0, 1) := by decide +kernel
theorem dX4_ofChild_5 : decode cX4_ofChild 5 = .ok (.aload_n 1, 1) := by decide +kernel
theorem dX4_ofChild_6 : decode cX4_ofChild 6 = .ok (.iload_n 2, 1) := by decide +kernel
theorem dX4_ofChild_7 : decode cX4_ofChild 7 = .ok (.invokevirtual 28, 3) := by decide +kernel
theorem dX4_ofChild_10 : decode cX4_ofChild 10 = .ok (.iastore, 1) := by decide +kernel
theorem dX4_ofChild_11 : decode cX4_ofChild 11 = .ok (.aload_n 0, 1) := by decide +kernel
theorem dX4_ofChild_12 : decode cX4_ofChild 12 = .ok (.getfield 11, 3) := by decide +kernel
theorem dX4_ofChild_15 : decode cX4_ofChild 15 = .ok (.iconst 1, 1) := by decide +kernel
theorem dX4_ofChild_16 : decode cX4_ofChild 16 = .ok (.aload_n 1, 1) := by decide +kernel
theorem dX4_ofChild_17 : decode cX4_ofChild 17 = .ok (.iload_n 2, 1) := by decide +kernel
theorem dX4_ofChild_18 : decode cX4_ofChild 18 = .ok (.invokevirtual 34, 3) := by decide +kernel
theorem dX4_ofChild_21 : decode cX4_ofChild 21 = .ok (.iastore, 1) := by decide +kernel
theorem dX4_ofChild_22 : decode cX4_ofChild 22 = .ok (.aload_n 0, 1) := by decide +kernel
theorem dX4_ofChild_23 : decode cX4_ofChild 23 = .ok (.getfield 11, 3) := by decide +kernel
theorem dX4_ofChild_26 : decode cX4_ofChild 26 = .ok (.iconst 5, 1) := by decide +kernel
theorem dX4_ofChild_27 : decode cX4_ofChild 27 = .ok (.aload_n 1, 1) := by decide +kernel
theorem dX4_ofChild_28 : decode cX4_ofChild 28 = .ok (.getfield 37, 3) := by decide +kernel
theorem dX4_ofChild_31 : decode cX4_ofChild 31 = .ok (.iload_n 2, 1) := by decide +kernel
theorem dX4_ofChild_32 : decode cX4_ofChild 32 = .ok (.iaload, 1) := by decide +kernel
theorem dX4_ofChild_33 : decode cX4_ofChild 33 = .ok (.iastore, 1) := by decide +kernel
theorem dX4_ofChild_34 : decode cX4_ofChild 34 = .ok (.return_, 1) := by decide +kernel
theorem dX4_ofTalk_0 : decode cX4_ofTalk 0 = .ok (.aload_n 0, 1) := by decide +kernel
theorem dX4_ofTalk_1 : decode cX4_ofTalk 1 = .ok (.getfield 11, 3) := by decide +kernel
theorem dX4_ofTalk_4 : decode cX4_ofTalk 4 = .ok (.iconst 2, 1) := by decide +kernel
theorem dX4_ofTalk_5 : decode cX4_ofTalk 5 = .ok (.iload_n 1, 1) := by decide +kernel
theorem dX4_ofTalk_6 : decode cX4_ofTalk 6 = .ok (.ifCond .eq 7, 3) := by decide +kernel
theorem dX4_ofTalk_9 : decode cX4_ofTalk 9 = .ok (.iconst 1, 1) := by decide +kernel
theorem dX4_ofTalk_10 : decode cX4_ofTalk 10 = .ok (.goto 4, 3) := by decide +kernel
theorem dX4_ofTalk_13 : decode cX4_ofTalk 13 = .ok (.iconst 0, 1) := by decide +kernel
theorem dX4_ofTalk_14 : decode cX4_ofTalk 14 = .ok (.iastore, 1) := by decide +kernel
theorem dX4_ofTalk_15 : decode cX4_ofTalk 15 = .ok (.aload_n 0, 1) := by decide +kernel
theorem dX4_ofTalk_16 : decode cX4_ofTalk 16 = .ok (.getfield 11, 3) := by decide +kernel
theorem dX4_ofTalk_19 : decode cX4_ofTalk 19 = .ok (.iconst 3, 1) := by decide +kernel
theorem dX4_ofTalk_20 : decode cX4_ofTalk 20 = .ok (.iload_n 2, 1) := by decide +kernel
theorem dX4_ofTalk_21 : decode cX4_ofTalk 21 = .ok (.ifCond .eq 7, 3) := by decide +kernel
theorem dX4_ofTalk_24 : decode cX4_ofTalk 24 = .ok (.iconst 1, 1) := by decide +kernel
theorem dX4_ofTalk_25 : decode cX4_ofTalk 25 = .ok (.goto 4, 3) := by decide +kernel
theorem dX4_ofTalk_28 : decode cX4_ofTalk 28 = .ok (.iconst 0, 1) := by decide +kernel
theorem dX4_ofTalk_29 : decode cX4_ofTalk 29 = .ok (.iastore, 1) := by decide +kernel
theorem dX4_ofTalk_30 : decode cX4_ofTalk 30 = .ok (.return_, 1) := by decide +kernel
theorem dX4_isHeld_0 : decode cX4_isHeld 0 = .ok (.aload_n 0, 1) := by decide +kernel
theorem dX4_isHeld_1 : decode cX4_isHeld 1 = .ok (.aload_n 1, 1) := by decide +kernel
theorem dX4_isHeld_2 : decode cX4_isHeld 2 = .ok (.iload_n 2, 1) := by decide +kernel
theorem dX4_isHeld_3 : decode cX4_isHeld 3 = .ok (.invokevirtual 40, 3) := by decide +kernel
theorem dX4_isHeld_6 : decode cX4_isHeld 6 = .ok (.aload_n 0, 1) := by decide +kernel
theorem dX4_isHeld_7 : decode cX4_isHeld 7 = .ok (.iconst 0, 1) := by decide +kernel
theorem dX4_isHeld_8 : decode cX4_isHeld 8 = .ok (.iconst 0, 1) := by decide +kernel
theorem dX4_isHeld_9 : decode cX4_isHeld 9 = .ok (.invokevirtual 44, 3) := by decide +kernel
theorem dX4_isHeld_12 : decode cX4_isHeld 12 = .ok (.aload_n 1, 1) := by decide +kernel
theorem dX4_isHeld_13 : decode cX4_isHeld 13 = .ok (.getfield 48, 3) := by decide +kernel
theorem dX4_isHeld_16 : decode cX4_isHeld 16 = .ok (.iload_n 2, 1) := by decide +kernel
theorem dX4_isHeld_17 : decode cX4_isHeld 17 = .ok (.bipush 6, 2) := by decide +kernel
theorem dX4_isHeld_19 : decode cX4_isHeld 19 = .ok (.imul, 1) := by decide +kernel
theorem dX4_isHeld_20 : decode cX4_isHeld 20 = .ok (.iload_n 3, 1) := by decide +kernel
theorem dX4_isHeld_21 : decode cX4_isHeld 21 = .ok (.iadd, 1) := by decide +kernel
theorem dX4_isHeld_22 : decode cX4_isHeld 22 = .ok (.iaload, 1) := by decide +kernel
theorem dX4_isHeld_23 : decode cX4_isHeld 23 = .ok (.istore 4, 2) := by decide +kernel
theorem dX4_isHeld_25 : decode cX4_isHeld 25 = .ok (.iload 4, 2) := by decide +kernel
theorem dX4_isHeld_27 : decode cX4_isHeld 27 = .ok (.aload_n 0, 1) := by decide +kernel
theorem dX4_isHeld_28 : decode cX4_isHeld 28 = .ok (.iconst 3, 1) := by decide +kernel
theorem dX4_isHeld_29 : decode cX4_isHeld 29 = .ok (.iload 4, 2) := by decide +kernel
theorem dX4_isHeld_31 : decode cX4_isHeld 31 = .ok (.invokevirtual 51, 3) := by decide +kernel
theorem dX4_isHeld_34 : decode cX4_isHeld 34 = .ok (.if_icmp .lt 7, 3) := by decide +kernel
theorem dX4_isHeld_37 : decode cX4_isHeld 37 = .ok (.iconst 1, 1) := by decide +kernel
theorem dX4_isHeld_38 : decode cX4_isHeld 38 = .ok (.goto 4, 3) := by decide +kernel
theorem dX4_isHeld_41 : decode cX4_isHeld 41 = .ok (.iconst 0, 1) := by decide +kernel
theorem dX4_isHeld_42 : decode cX4_isHeld 42 = .ok (.ireturn, 1) := by decide +kernel
theorem dX4_valueOf_0 : decode cX4_valueOf 0 = .ok (.aload_n 0, 1) := by decide +kernel
theorem dX4_valueOf_1 : decode cX4_valueOf 1 = .ok (.getfield 11, 3) := by decide +kernel
theorem dX4_valueOf_4 : decode cX4_valueOf 4 = .ok (.iconst 4, 1) := by decide +kernel
theorem dX4_valueOf_5 : decode cX4_valueOf 5 = .ok (.iload_n 2, 1) := by decide +kernel
theorem dX4_valueOf_6 : decode cX4_valueOf 6 = .ok (.iastore, 1) := by decide +kernel
theorem dX4_valueOf_7 : decode cX4_valueOf 7 = .ok (.aload_n 0, 1) := by decide +kernel
theorem dX4_valueOf_8 : decode cX4_valueOf 8 = .ok (.getfield 20, 3) := by decide +kernel
theorem dX4_valueOf_11 : decode cX4_valueOf 11 = .ok (.ifnull 125, 3) := by decide +kernel
theorem dX4_valueOf_14 : decode cX4_valueOf 14 = .ok (.aload_n 0, 1) := by decide +kernel
theorem dX4_valueOf_15 : decode cX4_valueOf 15 = .ok (.getfield 20, 3) := by decide +kernel
theorem dX4_valueOf_18 : decode cX4_valueOf 18 = .ok (.getfield 55, 3) := by decide +kernel
theorem dX4_valueOf_21 : decode cX4_valueOf 21 = .ok (.iconst 1, 1) := by decide +kernel
theorem dX4_valueOf_22 : decode cX4_valueOf 22 = .ok (.isub, 1) := by decide +kernel
theorem dX4_valueOf_23 : decode cX4_valueOf 23 = .ok (.istore_n 3, 1) := by decide +kernel
theorem dX4_valueOf_24 : decode cX4_valueOf 24 = .ok (.iload_n 3, 1) := by decide +kernel
theorem dX4_valueOf_25 : decode cX4_valueOf 25 = .ok (.ifCond .lt 111, 3) := by decide +kernel
theorem dX4_valueOf_28 : decode cX4_valueOf 28 = .ok (.aload_n 0, 1) := by decide +kernel
theorem dX4_valueOf_29 : decode cX4_valueOf 29 = .ok (.getfield 20, 3) := by decide +kernel
theorem dX4_valueOf_32 : decode cX4_valueOf 32 = .ok (.getfield 58, 3) := by decide +kernel
theorem dX4_valueOf_35 : decode cX4_valueOf 35 = .ok (.iload_n 3, 1) := by decide +kernel
theorem dX4_valueOf_36 : decode cX4_valueOf 36 = .ok (.iaload, 1) := by decide +kernel
theorem dX4_valueOf_37 : decode cX4_valueOf 37 = .ok (.istore 4, 2) := by decide +kernel
theorem dX4_valueOf_39 : decode cX4_valueOf 39 = .ok (.aload_n 0, 1) := by decide +kernel
theorem dX4_valueOf_40 : decode cX4_valueOf 40 = .ok (.getfield 20, 3) := by decide +kernel
theorem dX4_valueOf_43 : decode cX4_valueOf 43 = .ok (.getfield 61, 3) := by decide +kernel
theorem dX4_valueOf_46 : decode cX4_valueOf 46 = .ok (.iload_n 3, 1) := by decide +kernel
theorem dX4_valueOf_47 : decode cX4_valueOf 47 = .ok (.iaload, 1) := by decide +kernel
theorem dX4_valueOf_48 : decode cX4_valueOf 48 = .ok (.istore 5, 2) := by decide +kernel
theorem dX4_valueOf_50 : decode cX4_valueOf 50 = .ok (.aload_n 0, 1) := by decide +kernel
theorem dX4_valueOf_51 : decode cX4_valueOf 51 = .ok (.getfield 20, 3) := by decide +kernel
theorem dX4_valueOf_54 : decode cX4_valueOf 54 = .ok (.getfield 64, 3) := by decide +kernel
theorem dX4_valueOf_57 : decode cX4_valueOf 57 = .ok (.iload_n 3, 1) := by decide +kernel
theorem dX4_valueOf_58 : decode cX4_valueOf 58 = .ok (.iaload, 1) := by decide +kernel
theorem dX4_valueOf_59 : decode cX4_valueOf 59 = .ok (.iload_n 1, 1) := by decide +kernel
theorem dX4_valueOf_60 : decode cX4_valueOf 60 = .ok (.if_icmp .ne 70, 3) := by decide +kernel
theorem dX4_valueOf_63 : decode cX4_valueOf 63 = .ok (.iload_n 3, 1) := by decide +kernel
theorem dX4_valueOf_64 : decode cX4_valueOf 64 = .ok (.aload_n 0, 1) := by decide +kernel
theorem dX4_valueOf_65 : decode cX4_valueOf 65 = .ok (.getfield 24, 3) := by decide +kernel
theorem dX4_valueOf_68 : decode cX4_valueOf 68 = .ok (.if_icmp .eq 62, 3) := by decide +kernel
theorem dX4_valueOf_71 : decode cX4_valueOf 71 = .ok (.iload 4, 2) := by decide +kernel
theorem dX4_valueOf_73 : decode cX4_valueOf 73 = .ok (.iload 5, 2) := by decide +kernel
theorem dX4_valueOf_75 : decode cX4_valueOf 75 = .ok (.if_icmp .eq 25, 3) := by decide +kernel
theorem dX4_valueOf_78 : decode cX4_valueOf 78 = .ok (.aload_n 0, 1) := by decide +kernel
theorem dX4_valueOf_79 : decode cX4_valueOf 79 = .ok (.getfield 20, 3) := by decide +kernel
theorem dX4_valueOf_82 : decode cX4_valueOf 82 = .ok (.iload 4, 2) := by decide +kernel
theorem dX4_valueOf_84 : decode cX4_valueOf 84 = .ok (.iload 5, 2) := by decide +kernel
theorem dX4_valueOf_86 : decode cX4_valueOf 86 = .ok (.aload_n 0, 1) := by decide +kernel
theorem dX4_valueOf_87 : decode cX4_valueOf 87 = .ok (.getfield 11, 3) := by decide +kernel
theorem dX4_valueOf_90 : decode cX4_valueOf 90 = .ok (.aload_n 0, 1) := by decide +kernel
theorem dX4_valueOf_91 : decode cX4_valueOf 91 = .ok (.getfield 17, 3) := by decide +kernel
theorem dX4_valueOf_94 : decode cX4_valueOf 94 = .ok (.invokevirtual 67, 3) := by decide +kernel
theorem dX4_valueOf_97 : decode cX4_valueOf 97 = .ok (.ifCond .eq 33, 3) := by decide +kernel
theorem dX4_valueOf_100 : decode cX4_valueOf 100 = .ok (.aload_n 0, 1) := by decide +kernel
theorem dX4_valueOf_101 : decode cX4_valueOf 101 = .ok (.getfield 20, 3) := by decide +kernel
theorem dX4_valueOf_104 : decode cX4_valueOf 104 = .ok (.aload_n 0, 1) := by decide +kernel
theorem dX4_valueOf_105 : decode cX4_valueOf 105 = .ok (.getfield 20, 3) := by decide +kernel
theorem dX4_valueOf_108 : decode cX4_valueOf 108 = .ok (.getfield 71, 3) := by decide +kernel
theorem dX4_valueOf_111 : decode cX4_valueOf 111 = .ok (.iload_n 3, 1) := by decide +kernel
theorem dX4_valueOf_112 : decode cX4_valueOf 112 = .ok (.iaload, 1) := by decide +kernel
theorem dX4_valueOf_113 : decode cX4_valueOf 113 = .ok (.iload 4, 2) := by decide +kernel
theorem dX4_valueOf_115 : decode cX4_valueOf 115 = .ok (.aload_n 0, 1) := by decide +kernel
theorem dX4_valueOf_116 : decode cX4_valueOf 116 = .ok (.getfield 11, 3) := by decide +kernel
theorem dX4_valueOf_119 : decode cX4_valueOf 119 = .ok (.aload_n 0, 1) := by decide +kernel
theorem dX4_valueOf_120 : decode cX4_valueOf 120 = .ok (.getfield 17, 3) := by decide +kernel
theorem dX4_valueOf_123 : decode cX4_valueOf 123 = .ok (.invokevirtual 67, 3) := by decide +kernel
theorem dX4_valueOf_126 : decode cX4_valueOf 126 = .ok (.invokestatic 74, 3) := by decide +kernel
theorem dX4_valueOf_129 : decode cX4_valueOf 129 = .ok (.ireturn, 1) := by decide +kernel
theorem dX4_valueOf_130 : decode cX4_valueOf 130 = .ok (.iinc 3 (-1), 3) := by decide +kernel
theorem dX4_valueOf_133 : decode cX4_valueOf 133 = .ok (.goto (-109), 3) := by decide +kernel
theorem dX4_valueOf_136 : decode cX4_valueOf 136 = .ok (.getstatic 77, 3) := by decide +kernel
theorem dX4_valueOf_139 : decode cX4_valueOf 139 = .ok (.iload_n 1, 1) := by decide +kernel
theorem dX4_valueOf_140 : decode cX4_valueOf 140 = .ok (.iaload, 1) := by decide +kernel
theorem dX4_valueOf_141 : decode cX4_valueOf 141 = .ok (.ireturn, 1) := by decide +kernel
theorem dX5_init_0 : decode cX5_init 0 = .ok (.aload_n 0, 1) := by decide +kernel
theorem dX5_init_1 : decode cX5_init 1 = .ok (.invokespecial 3, 3) := by decide +kernel
theorem dX5_init_4 : decode cX5_init 4 = .ok (.aload_n 0, 1) := by decide +kernel
theorem dX5_init_5 : decode cX5_init 5 = .ok (.iconst 0, 1) := by decide +kernel
theorem dX5_init_6 : decode cX5_init 6 = .ok (.putfield 9, 3) := by decide +kernel
theorem dX5_init_9 : decode cX5_init 9 = .ok (.aload_n 0, 1) := by decide +kernel
theorem dX5_init_10 : decode cX5_init 10 = .ok (.iconst 0, 1) := by decide +kernel
theorem dX5_init_11 : decode cX5_init 11 = .ok (.putfield 15, 3) := by decide +kernel
theorem dX5_init_14 : decode cX5_init 14 = .ok (.aload_n 0, 1) := by decide +kernel
theorem dX5_init_15 : decode cX5_init 15 = .ok (.iconst 3, 1) := by decide +kernel
theorem dX5_init_16 : decode cX5_init 16 = .ok (.newarray .int, 2) := by decide +kernel
theorem dX5_init_18 : decode cX5_init 18 = .ok (.putfield 18, 3) := by decide +kernel
theorem dX5_init_21 : decode cX5_init 21 = .ok (.aload_n 0, 1) := by decide +kernel
theorem dX5_init_22 : decode cX5_init 22 = .ok (.iconst 0, 1) := by decide +kernel
theorem dX5_init_23 : decode cX5_init 23 = .ok (.putfield 22, 3) := by decide +kernel
theorem dX5_init_26 : decode cX5_init 26 = .ok (.aload_n 0, 1) := by decide +kernel
theorem dX5_init_27 : decode cX5_init 27 = .ok (.iconst 3, 1) := by decide +kernel
theorem dX5_init_28 : decode cX5_init 28 = .ok (.newarray .int, 2) := by decide +kernel
theorem dX5_init_30 : decode cX5_init 30 = .ok (.putfield 25, 3) := by decide +kernel
theorem dX5_init_33 : decode cX5_init 33 = .ok (.aload_n 0, 1) := by decide +kernel
theorem dX5_init_34 : decode cX5_init 34 = .ok (.iconst 0, 1) := by decide +kernel
theorem dX5_init_35 : decode cX5_init 35 = .ok (.putfield 28, 3) := by decide +kernel
theorem dX5_init_38 : decode cX5_init 38 = .ok (.aload_n 0, 1) := by decide +kernel
theorem dX5_init_39 : decode cX5_init 39 = .ok (.iconst 3, 1) := by decide +kernel
theorem dX5_init_40 : decode cX5_init 40 = .ok (.newarray .int, 2) := by decide +kernel
theorem dX5_init_42 : decode cX5_init 42 = .ok (.putfield 31, 3) := by decide +kernel
theorem dX5_init_45 : decode cX5_init 45 = .ok (.aload_n 0, 1) := by decide +kernel
theorem dX5_init_46 : decode cX5_init 46 = .ok (.iconst 0, 1) := by decide +kernel
theorem dX5_init_47 : decode cX5_init 47 = .ok (.putfield 34, 3) := by decide +kernel
theorem dX5_init_50 : decode cX5_init 50 = .ok (.aload_n 0, 1) := by decide +kernel
theorem dX5_init_51 : decode cX5_init 51 = .ok (.iconst 0, 1) := by decide +kernel
theorem dX5_init_52 : decode cX5_init 52 = .ok (.putfield 38, 3) := by decide +kernel
theorem dX5_init_55 : decode cX5_init 55 = .ok (.aload_n 0, 1) := by decide +kernel
theorem dX5_init_56 : decode cX5_init 56 = .ok (.iconst (-1), 1) := by decide +kernel
theorem dX5_init_57 : decode cX5_init 57 = .ok (.putfield 41, 3) := by decide +kernel
theorem dX5_init_60 : decode cX5_init 60 = .ok (.return_, 1) := by decide +kernel
theorem dX5_begin_0 : decode cX5_begin 0 = .ok (.aload_n 0, 1) := by decide +kernel
theorem dX5_begin_1 : decode cX5_begin 1 = .ok (.iload_n 1, 1) := by decide +kernel
theorem dX5_begin_2 : decode cX5_begin 2 = .ok (.putfield 9, 3) := by decide +kernel
theorem dX5_begin_5 : decode cX5_begin 5 = .ok (.aload_n 0, 1) := by decide +kernel
theorem dX5_begin_6 : decode cX5_begin 6 = .ok (.iload_n 2, 1) := by decide +kernel
theorem dX5_begin_7 : decode cX5_begin 7 = .ok (.putfield 15, 3) := by decide +kernel
theorem dX5_begin_10 : decode cX5_begin 10 = .ok (.aload_n 0, 1) := by decide +kernel
theorem dX5_begin_11 : decode cX5_begin 11 = .ok (.getfield 18, 3) := by decide +kernel
theorem dX5_begin_14 : decode cX5_begin 14 = .ok (.iconst 0, 1) := by decide +kernel
theorem dX5_begin_15 : decode cX5_begin 15 = .ok (.iload_n 3, 1) := by decide +kernel
theorem dX5_begin_16 : decode cX5_begin 16 = .ok (.iastore, 1) := by decide +kernel
theorem dX5_begin_17 : decode cX5_begin 17 = .ok (.aload_n 0, 1) := by decide +kernel
theorem dX5_begin_18 : decode cX5_begin 18 = .ok (.getfield 18, 3) := by decide +kernel
theorem dX5_begin_21 : decode cX5_begin 21 = .ok (.iconst 1, 1) := by decide +kernel
theorem dX5_begin_22 : decode cX5_begin 22 = .ok (.iload 4, 2) := by decide +kernel
theorem dX5_begin_24 : decode cX5_begin 24 = .ok (.iastore, 1) := by decide +kernel
theorem dX5_begin_25 : decode cX5_begin 25 = .ok (.aload_n 0, 1) := by decide +kernel
theorem dX5_begin_26 : decode cX5_begin 26 = .ok (.getfield 18, 3) := by decide +kernel
theorem dX5_begin_29 : decode cX5_begin 29 = .ok (.iconst 2, 1) := by decide +kernel
theorem dX5_begin_30 : decode cX5_begin 30 = .ok (.iload 5, 2) := by decide +kernel
theorem dX5_begin_32 : decode cX5_begin 32 = .ok (.iastore, 1) := by decide +kernel
theorem dX5_begin_33 : decode cX5_begin 33 = .ok (.return_, 1) := by decide +kernel
theorem dX5_makeIn_0 : decode cX5_makeIn 0 = .ok (.aload_n 0, 1) := by decide +kernel
theorem dX5_makeIn_1 : decode cX5_makeIn 1 = .ok (.aload_n 1, 1) := by decide +kernel
theorem dX5_makeIn_2 : decode cX5_makeIn 2 = .ok (.invokevirtual 44, 3) := by decide +kernel
theorem dX5_makeIn_5 : decode cX5_makeIn 5 = .ok (.aload_n 0, 1) := by decide +kernel
theorem dX5_makeIn_6 : decode cX5_makeIn 6 = .ok (.aload_n 1, 1) := by decide +kernel
theorem dX5_makeIn_7 : decode cX5_makeIn 7 = .ok (.invokevirtual 48, 3) := by decide +kernel
theorem dX5_makeIn_10 : decode cX5_makeIn 10 = .ok (.aload_n 0, 1) := by decide +kernel
theorem dX5_makeIn_11 : decode cX5_makeIn 11 = .ok (.aload_n 1, 1) := by decide +kernel
theorem dX5_makeIn_12 : decode cX5_makeIn 12 = .ok (.bipush 100, 2) := by decide +kernel
theorem dX5_makeIn_14 : decode cX5_makeIn 14 = .ok (.invokevirtual 51, 3) := by decide +kernel
theorem dX5_makeIn_17 : decode cX5_makeIn 17 = .ok (.aload_n 1, 1) := by decide +kernel
theorem dX5_makeIn_18 : decode cX5_makeIn 18 = .ok (.getfield 57, 3) := by decide +kernel
theorem dX5_makeIn_21 : decode cX5_makeIn 21 = .ok (.if_icmp .ge 7, 3) := by decide +kernel
theorem dX5_makeIn_24 : decode cX5_makeIn 24 = .ok (.iconst 1, 1) := by decide +kernel
theorem dX5_makeIn_25 : decode cX5_makeIn 25 = .ok (.goto 4, 3) := by decide +kernel
theorem dX5_makeIn_28 : decode cX5_makeIn 28 = .ok (.iconst 0, 1) := by decide +kernel
theorem dX5_makeIn_29 : decode cX5_makeIn 29 = .ok (.putfield 38, 3) := by decide +kernel
theorem dX5_makeIn_32 : decode cX5_makeIn 32 = .ok (.aload_n 0, 1) := by decide +kernel
theorem dX5_makeIn_33 : decode cX5_makeIn 33 = .ok (.aload_n 1, 1) := by decide +kernel
theorem dX5_makeIn_34 : decode cX5_makeIn 34 = .ok (.aload_n 2, 1) := by decide +kernel
theorem dX5_makeIn_35 : decode cX5_makeIn 35 = .ok (.invokevirtual 60, 3) := by decide +kernel
theorem dX5_makeIn_38 : decode cX5_makeIn 38 = .ok (.aload_n 0, 1) := by decide +kernel
theorem dX5_makeIn_39 : decode cX5_makeIn 39 = .ok (.getfield 34, 3) := by decide +kernel
theorem dX5_makeIn_42 : decode cX5_makeIn 42 = .ok (.ifCond .eq 8, 3) := by decide +kernel
theorem dX5_makeIn_45 : decode cX5_makeIn 45 = .ok (.aload_n 0, 1) := by decide +kernel
theorem dX5_makeIn_46 : decode cX5_makeIn 46 = .ok (.aload_n 1, 1) := by decide +kernel
theorem dX5_makeIn_47 : decode cX5_makeIn 47 = .ok (.invokevirtual 64, 3) := by decide +kernel
theorem dX5_makeIn_50 : decode cX5_makeIn 50 = .ok (.aload_n 1, 1) := by decide +kernel
theorem dX5_makeIn_51 : decode cX5_makeIn 51 = .ok (.getfield 67, 3) := by decide +kernel
theorem dX5_makeIn_54 : decode cX5_makeIn 54 = .ok (.aload_n 0, 1) := by decide +kernel
theorem dX5_makeIn_55 : decode cX5_makeIn 55 = .ok (.getfield 15, 3) := by decide +kernel
theorem dX5_makeIn_58 : decode cX5_makeIn 58 = .ok (.dup2, 1) := by decide +kernel
theorem dX5_makeIn_59 : decode cX5_makeIn 59 = .ok (.iaload, 1) := by decide +kernel
theorem dX5_makeIn_60 : decode cX5_makeIn 60 = .ok (.iconst 1, 1) := by decide +kernel
theorem dX5_makeIn_61 : decode cX5_makeIn 61 = .ok (.iadd, 1) := by decide +kernel
theorem dX5_makeIn_62 : decode cX5_makeIn 62 = .ok (.iastore, 1) := by decide +kernel
theorem dX5_makeIn_63 : decode cX5_makeIn 63 = .ok (.aload_n 1, 1) := by decide +kernel
theorem dX5_makeIn_64 : decode cX5_makeIn 64 = .ok (.getfield 70, 3) := by decide +kernel
theorem dX5_makeIn_67 : decode cX5_makeIn 67 = .ok (.aload_n 0, 1) := by decide +kernel
theorem dX5_makeIn_68 : decode cX5_makeIn 68 = .ok (.getfield 9, 3) := by decide +kernel
theorem dX5_makeIn_71 : decode cX5_makeIn 71 = .ok (.dup2, 1) := by decide +kernel
theorem dX5_makeIn_72 : decode cX5_makeIn 72 = .ok (.iaload, 1) := by decide +kernel
theorem dX5_makeIn_73 : decode cX5_makeIn 73 = .ok (.iconst 1, 1) := by decide +kernel
theorem dX5_makeIn_74 : decode cX5_makeIn 74 = .ok (.iadd, 1) := by decide +kernel
theorem dX5_makeIn_75 : decode cX5_makeIn 75 = .ok (.iastore, 1) := by decide +kernel
theorem dX5_makeIn_76 : decode cX5_makeIn 76 = .ok (.return_, 1) := by decide +kernel
theorem dX5_sayIn_0 : decode cX5_sayIn 0 = .ok (.aload_n 0, 1) := by decide +kernel
theorem dX5_sayIn_1 : decode cX5_sayIn 1 = .ok (.aload_n 1, 1) := by decide +kernel
theorem dX5_sayIn_2 : decode cX5_sayIn 2 = .ok (.aload_n 0, 1) := by decide +kernel
theorem dX5_sayIn_3 : decode cX5_sayIn 3 = .ok (.getfield 9, 3) := by decide +kernel
theorem dX5_sayIn_6 : decode cX5_sayIn 6 = .ok (.invokevirtual 73, 3) := by decide +kernel
theorem dX5_sayIn_9 : decode cX5_sayIn 9 = .ok (.putfield 22, 3) := by decide +kernel
theorem dX5_sayIn_12 : decode cX5_sayIn 12 = .ok (.iconst 0, 1) := by decide +kernel
theorem dX5_sayIn_13 : decode cX5_sayIn 13 = .ok (.istore_n 2, 1) := by decide +kernel
theorem dX5_sayIn_14 : decode cX5_sayIn 14 = .ok (.iload_n 2, 1) := by decide +kernel
theorem dX5_sayIn_15 : decode cX5_sayIn 15 = .ok (.iconst 3, 1) := by decide +kernel
theorem dX5_sayIn_16 : decode cX5_sayIn 16 = .ok (.if_icmp .ge 28, 3) := by decide +kernel
theorem dX5_sayIn_19 : decode cX5_sayIn 19 = .ok (.aload_n 0, 1) := by decide +kernel
theorem dX5_sayIn_20 : decode cX5_sayIn 20 = .ok (.getfield 25, 3) := by decide +kernel
theorem dX5_sayIn_23 : decode cX5_sayIn 23 = .ok (.iload_n 2, 1) := by decide +kernel
theorem dX5_sayIn_24 : decode cX5_sayIn 24 = .ok (.aload_n 1, 1) := by decide +kernel
theorem dX5_sayIn_25 : decode cX5_sayIn 25 = .ok (.aload_n 0, 1) := by decide +kernel
theorem dX5_sayIn_26 : decode cX5_sayIn 26 = .ok (.getfield 9, 3) := by decide +kernel
theorem dX5_sayIn_29 : decode cX5_sayIn 29 = .ok (.aload_n 0, 1) := by decide +kernel
theorem dX5_sayIn_30 : decode cX5_sayIn 30 = .ok (.iload_n 2, 1) := by decide +kernel
theorem dX5_sayIn_31 : decode cX5_sayIn 31 = .ok (.invokevirtual 76, 3) := by decide +kernel
theorem dX5_sayIn_34 : decode cX5_sayIn 34 = .ok (.invokevirtual 79, 3) := by decide +kernel
theorem dX5_sayIn_37 : decode cX5_sayIn 37 = .ok (.iastore, 1) := by decide +kernel
theorem dX5_sayIn_38 : decode cX5_sayIn 38 = .ok (.iinc 2 1, 3) := by decide +kernel
theorem dX5_sayIn_41 : decode cX5_sayIn 41 = .ok (.goto (-27), 3) := by decide +kernel
theorem dX5_sayIn_44 : decode cX5_sayIn 44 = .ok (.iconst 0, 1) := by decide +kernel
theorem dX5_sayIn_45 : decode cX5_sayIn 45 = .ok (.istore_n 2, 1) := by decide +kernel
theorem dX5_sayIn_46 : decode cX5_sayIn 46 = .ok (.iload_n 2, 1) := by decide +kernel
theorem dX5_sayIn_47 : decode cX5_sayIn 47 = .ok (.iconst 3, 1) := by decide +kernel
theorem dX5_sayIn_48 : decode cX5_sayIn 48 = .ok (.if_icmp .ge 37, 3) := by decide +kernel
theorem dX5_sayIn_51 : decode cX5_sayIn 51 = .ok (.aload_n 1, 1) := by decide +kernel
theorem dX5_sayIn_52 : decode cX5_sayIn 52 = .ok (.getfield 83, 3) := by decide +kernel
theorem dX5_sayIn_55 : decode cX5_sayIn 55 = .ok (.aload_n 1, 1) := by decide +kernel
theorem dX5_sayIn_56 : decode cX5_sayIn 56 = .ok (.getfield 86, 3) := by decide +kernel
theorem dX5_sayIn_59 : decode cX5_sayIn 59 = .ok (.aload_n 0, 1) := by decide +kernel
theorem dX5_sayIn_60 : decode cX5_sayIn 60 = .ok (.getfield 9, 3) := by decide +kernel
theorem dX5_sayIn_63 : decode cX5_sayIn 63 = .ok (.iaload, 1) := by decide +kernel
theorem dX5_sayIn_64 : decode cX5_sayIn 64 = .ok (.bipush 16, 2) := by decide +kernel
theorem dX5_sayIn_66 : decode cX5_sayIn 66 = .ok (.imul, 1) := by decide +kernel
theorem dX5_sayIn_67 : decode cX5_sayIn 67 = .ok (.aload_n 0, 1) := by decide +kernel
theorem dX5_sayIn_68 : decode cX5_sayIn 68 = .ok (.getfield 25, 3) := by decide +kernel
theorem dX5_sayIn_71 : decode cX5_sayIn 71 = .ok (.iload_n 2, 1) := by decide +kernel
theorem dX5_sayIn_72 : decode cX5_sayIn 72 = .ok (.iaload, 1) := by decide +kernel
theorem dX5_sayIn_73 : decode cX5_sayIn 73 = .ok (.iadd, 1) := by decide +kernel
theorem dX5_sayIn_74 : decode cX5_sayIn 74 = .ok (.dup2, 1) := by decide +kernel
theorem dX5_sayIn_75 : decode cX5_sayIn 75 = .ok (.iaload, 1) := by decide +kernel
theorem dX5_sayIn_76 : decode cX5_sayIn 76 = .ok (.iconst 1, 1) := by decide +kernel
theorem dX5_sayIn_77 : decode cX5_sayIn 77 = .ok (.iadd, 1) := by decide +kernel
theorem dX5_sayIn_78 : decode cX5_sayIn 78 = .ok (.iastore, 1) := by decide +kernel
theorem dX5_sayIn_79 : decode cX5_sayIn 79 = .ok (.iinc 2 1, 3) := by decide +kernel
theorem dX5_sayIn_82 : decode cX5_sayIn 82 = .ok (.goto (-36), 3) := by decide +kernel
theorem dX5_sayIn_85 : decode cX5_sayIn 85 = .ok (.return_, 1) := by decide +kernel
theorem dX5_conceptMeant_0 : decode cX5_conceptMeant 0 = .ok (.aload_n 0, 1) := by decide +kernel
theorem dX5_conceptMeant_1 : decode cX5_conceptMeant 1 = .ok (.getfield 22, 3) := by decide +kernel
theorem dX5_conceptMeant_4 : decode cX5_conceptMeant 4 = .ok (.iload_n 1, 1) := by decide +kernel
theorem dX5_conceptMeant_5 : decode cX5_conceptMeant 5 = .ok (.invokestatic 89, 3) := by decide +kernel
theorem dX5_conceptMeant_8 : decode cX5_conceptMeant 8 = .ok (.istore_n 2, 1) := by decide +kernel
theorem dX5_conceptMeant_9 : decode cX5_conceptMeant 9 = .ok (.iload_n 2, 1) := by decide +kernel
theorem dX5_conceptMeant_10 : decode cX5_conceptMeant 10 = .ok (.aload_n 0, 1) := by decide +kernel
theorem dX5_conceptMeant_11 : decode cX5_conceptMeant 11 = .ok (.getfield 18, 3) := by decide +kernel
theorem dX5_conceptMeant_14 : decode cX5_conceptMeant 14 = .ok (.iload_n 2, 1) := by decide +kernel
theorem dX5_conceptMeant_15 : decode cX5_conceptMeant 15 = .ok (.iaload, 1) := by decide +kernel
theorem dX5_conceptMeant_16 : decode cX5_conceptMeant 16 = .ok (.invokestatic 92, 3) := by decide +kernel
theorem dX5_conceptMeant_19 : decode cX5_conceptMeant 19 = .ok (.ireturn, 1) := by decide +kernel
theorem dX5_takeIn_0 : decode cX5_takeIn 0 = .ok (.aload_n 0, 1) := by decide +kernel
theorem dX5_takeIn_1 : decode cX5_takeIn 1 = .ok (.aload_n 1, 1) := by decide +kernel
theorem dX5_takeIn_2 : decode cX5_takeIn 2 = .ok (.aload_n 0, 1) := by decide +kernel
theorem dX5_takeIn_3 : decode cX5_takeIn 3 = .ok (.getfield 15, 3) := by decide +kernel
theorem dX5_takeIn_6 : decode cX5_takeIn 6 = .ok (.invokevirtual 73, 3) := by decide +kernel
theorem dX5_takeIn_9 : decode cX5_takeIn 9 = .ok (.putfield 28, 3) := by decide +kernel
theorem dX5_takeIn_12 : decode cX5_takeIn 12 = .ok (.aload_n 0, 1) := by decide +kernel
theorem dX5_takeIn_13 : decode cX5_takeIn 13 = .ok (.iconst 1, 1) := by decide +kernel
theorem dX5_takeIn_14 : decode cX5_takeIn 14 = .ok (.putfield 34, 3) := by decide +kernel
theorem dX5_takeIn_17 : decode cX5_takeIn 17 = .ok (.iconst 0, 1) := by decide +kernel
theorem dX5_takeIn_18 : decode cX5_takeIn 18 = .ok (.istore_n 2, 1) := by decide +kernel
theorem dX5_takeIn_19 : decode cX5_takeIn 19 = .ok (.iload_n 2, 1) := by decide +kernel
theorem dX5_takeIn_20 : decode cX5_takeIn 20 = .ok (.iconst 3, 1) := by decide +kernel
theorem dX5_takeIn_21 : decode cX5_takeIn 21 = .ok (.if_icmp .ge 56, 3) := by decide +kernel
theorem dX5_takeIn_24 : decode cX5_takeIn 24 = .ok (.aload_n 0, 1) := by decide +kernel
theorem dX5_takeIn_25 : decode cX5_takeIn 25 = .ok (.getfield 28, 3) := by decide +kernel
theorem dX5_takeIn_28 : decode cX5_takeIn 28 = .ok (.iload_n 2, 1) := by decide +kernel
theorem dX5_takeIn_29 : decode cX5_takeIn 29 = .ok (.invokestatic 89, 3) := by decide +kernel
theorem dX5_takeIn_32 : decode cX5_takeIn 32 = .ok (.istore_n 3, 1) := by decide +kernel
theorem dX5_takeIn_33 : decode cX5_takeIn 33 = .ok (.aload_n 0, 1) := by decide +kernel
theorem dX5_takeIn_34 : decode cX5_takeIn 34 = .ok (.getfield 31, 3) := by decide +kernel
theorem dX5_takeIn_37 : decode cX5_takeIn 37 = .ok (.iload_n 3, 1) := by decide +kernel
theorem dX5_takeIn_38 : decode cX5_takeIn 38 = .ok (.aload_n 0, 1) := by decide +kernel
theorem dX5_takeIn_39 : decode cX5_takeIn 39 = .ok (.aload_n 1, 1) := by decide +kernel
theorem dX5_takeIn_40 : decode cX5_takeIn 40 = .ok (.iload_n 3, 1) := by decide +kernel
theorem dX5_takeIn_41 : decode cX5_takeIn 41 = .ok (.aload_n 0, 1) := by decide +kernel
theorem dX5_takeIn_42 : decode cX5_takeIn 42 = .ok (.getfield 25, 3) := by decide +kernel
theorem dX5_takeIn_45 : decode cX5_takeIn 45 = .ok (.iload_n 2, 1) := by decide +kernel
theorem dX5_takeIn_46 : decode cX5_takeIn 46 = .ok (.iaload, 1) := by decide +kernel
theorem dX5_takeIn_47 : decode cX5_takeIn 47 = .ok (.invokevirtual 95, 3) := by decide +kernel
theorem dX5_takeIn_50 : decode cX5_takeIn 50 = .ok (.iastore, 1) := by decide +kernel
theorem dX5_takeIn_51 : decode cX5_takeIn 51 = .ok (.aload_n 0, 1) := by decide +kernel
theorem dX5_takeIn_52 : decode cX5_takeIn 52 = .ok (.getfield 31, 3) := by decide +kernel
theorem dX5_takeIn_55 : decode cX5_takeIn 55 = .ok (.iload_n 3, 1) := by decide +kernel
theorem dX5_takeIn_56 : decode cX5_takeIn 56 = .ok (.iaload, 1) := by decide +kernel
theorem dX5_takeIn_57 : decode cX5_takeIn 57 = .ok (.aload_n 0, 1) := by decide +kernel
theorem dX5_takeIn_58 : decode cX5_takeIn 58 = .ok (.getfield 18, 3) := by decide +kernel
theorem dX5_takeIn_61 : decode cX5_takeIn 61 = .ok (.iload_n 3, 1) := by decide +kernel
theorem dX5_takeIn_62 : decode cX5_takeIn 62 = .ok (.iaload, 1) := by decide +kernel
theorem dX5_takeIn_63 : decode cX5_takeIn 63 = .ok (.if_icmp .eq 8, 3) := by decide +kernel
theorem dX5_takeIn_66 : decode cX5_takeIn 66 = .ok (.aload_n 0, 1) := by decide +kernel
theorem dX5_takeIn_67 : decode cX5_takeIn 67 = .ok (.iconst 0, 1) := by decide +kernel
theorem dX5_takeIn_68 : decode cX5_takeIn 68 = .ok (.putfield 34, 3) := by decide +kernel
theorem dX5_takeIn_71 : decode cX5_takeIn 71 = .ok (.iinc 2 1, 3) := by decide +kernel
theorem dX5_takeIn_74 : decode cX5_takeIn 74 = .ok (.goto (-55), 3) := by decide +kernel
theorem dX5_takeIn_77 : decode cX5_takeIn 77 = .ok (.return_, 1) := by decide +kernel
theorem dX5_guessPart_0 : decode cX5_guessPart 0 = .ok (.iconst 0, 1) := by decide +kernel
theorem dX5_guessPart_1 : decode cX5_guessPart 1 = .ok (.istore 4, 2) := by decide +kernel
theorem dX5_guessPart_3 : decode cX5_guessPart 3 = .ok (.iconst 0, 1) := by decide +kernel
theorem dX5_guessPart_4 : decode cX5_guessPart 4 = .ok (.istore 5, 2) := by decide +kernel
theorem dX5_guessPart_6 : decode cX5_guessPart 6 = .ok (.iconst 0, 1) := by decide +kernel
theorem dX5_guessPart_7 : decode cX5_guessPart 7 = .ok (.istore 6, 2) := by decide +kernel
theorem dX5_guessPart_9 : decode cX5_guessPart 9 = .ok (.iload 6, 2) := by decide +kernel
theorem dX5_guessPart_11 : decode cX5_guessPart 11 = .ok (.iconst 4, 1) := by decide +kernel
theorem dX5_guessPart_12 : decode cX5_guessPart 12 = .ok (.if_icmp .ge 41, 3) := by decide +kernel
theorem dX5_guessPart_15 : decode cX5_guessPart 15 = .ok (.aload_n 1, 1) := by decide +kernel
theorem dX5_guessPart_16 : decode cX5_guessPart 16 = .ok (.aload_n 0, 1) := by decide +kernel
theorem dX5_guessPart_17 : decode cX5_guessPart 17 = .ok (.getfield 15, 3) := by decide +kernel
theorem dX5_guessPart_20 : decode cX5_guessPart 20 = .ok (.iload_n 2, 1) := by decide +kernel
theorem dX5_guessPart_21 : decode cX5_guessPart 21 = .ok (.iload 6, 2) := by decide +kernel
theorem dX5_guessPart_23 : decode cX5_guessPart 23 = .ok (.invokestatic 92, 3) := by decide +kernel
theorem dX5_guessPart_26 : decode cX5_guessPart 26 = .ok (.iload_n 3, 1) := by decide +kernel
theorem dX5_guessPart_27 : decode cX5_guessPart 27 = .ok (.invokevirtual 99, 3) := by decide +kernel
theorem dX5_guessPart_30 : decode cX5_guessPart 30 = .ok (.istore 7, 2) := by decide +kernel
theorem dX5_guessPart_32 : decode cX5_guessPart 32 = .ok (.iload 7, 2) := by decide +kernel
theorem dX5_guessPart_34 : decode cX5_guessPart 34 = .ok (.iload 5, 2) := by decide +kernel
theorem dX5_guessPart_36 : decode cX5_guessPart 36 = .ok (.if_icmp .le 11, 3) := by decide +kernel
theorem dX5_guessPart_39 : decode cX5_guessPart 39 = .ok (.iload 7, 2) := by decide +kernel
theorem dX5_guessPart_41 : decode cX5_guessPart 41 = .ok (.istore 5, 2) := by decide +kernel
theorem dX5_guessPart_43 : decode cX5_guessPart 43 = .ok (.iload 6, 2) := by decide +kernel
theorem dX5_guessPart_45 : decode cX5_guessPart 45 = .ok (.istore 4, 2) := by decide +kernel
theorem dX5_guessPart_47 : decode cX5_guessPart 47 = .ok (.iinc 6 1, 3) := by decide +kernel
theorem dX5_guessPart_50 : decode cX5_guessPart 50 = .ok (.goto (-41), 3) := by decide +kernel
theorem dX5_guessPart_53 : decode cX5_guessPart 53 = .ok (.iload 4, 2) := by decide +kernel
theorem dX5_guessPart_55 : decode cX5_guessPart 55 = .ok (.ireturn, 1) := by decide +kernel
theorem dX5_learnIn_0 : decode cX5_learnIn 0 = .ok (.aload_n 0, 1) := by decide +kernel
theorem dX5_learnIn_1 : decode cX5_learnIn 1 = .ok (.iconst (-1), 1) := by decide +kernel
theorem dX5_learnIn_2 : decode cX5_learnIn 2 = .ok (.putfield 41, 3) := by decide +kernel
theorem dX5_learnIn_5 : decode cX5_learnIn 5 = .ok (.aload_n 1, 1) := by decide +kernel
theorem dX5_learnIn_6 : decode cX5_learnIn 6 = .ok (.getfield 103, 3) := by decide +kernel
theorem dX5_learnIn_9 : decode cX5_learnIn 9 = .ok (.aload_n 0, 1) := by decide +kernel
theorem dX5_learnIn_10 : decode cX5_learnIn 10 = .ok (.getfield 15, 3) := by decide +kernel
theorem dX5_learnIn_13 : decode cX5_learnIn 13 = .ok (.iaload, 1) := by decide +kernel
theorem dX5_learnIn_14 : decode cX5_learnIn 14 = .ok (.iconst 3, 1) := by decide +kernel
theorem dX5_learnIn_15 : decode cX5_learnIn 15 = .ok (.if_icmp .ne 4, 3) := by decide +kernel
theorem dX5_learnIn_18 : decode cX5_learnIn 18 = .ok (.return_, 1) := by decide +kernel
theorem dX5_learnIn_19 : decode cX5_learnIn 19 = .ok (.aload_n 2, 1) := by decide +kernel
theorem dX5_learnIn_20 : decode cX5_learnIn 20 = .ok (.aload_n 1, 1) := by decide +kernel
theorem dX5_learnIn_21 : decode cX5_learnIn 21 = .ok (.aload_n 0, 1) := by decide +kernel
theorem dX5_learnIn_22 : decode cX5_learnIn 22 = .ok (.getfield 15, 3) := by decide +kernel
theorem dX5_learnIn_25 : decode cX5_learnIn 25 = .ok (.invokevirtual 106, 3) := by decide +kernel
theorem dX5_learnIn_28 : decode cX5_learnIn 28 = .ok (.aload_n 2, 1) := by decide +kernel
theorem dX5_learnIn_29 : decode cX5_learnIn 29 = .ok (.aload_n 0, 1) := by decide +kernel
theorem dX5_learnIn_30 : decode cX5_learnIn 30 = .ok (.getfield 34, 3) := by decide +kernel
theorem dX5_learnIn_33 : decode cX5_learnIn 33 = .ok (.aload_n 0, 1) := by decide +kernel
theorem dX5_learnIn_34 : decode cX5_learnIn 34 = .ok (.getfield 38, 3) := by decide +kernel
theorem dX5_learnIn_37 : decode cX5_learnIn 37 = .ok (.invokevirtual 112, 3) := by decide +kernel
theorem dX5_learnIn_40 : decode cX5_learnIn 40 = .ok (.aload_n 0, 1) := by decide +kernel
theorem dX5_learnIn_41 : decode cX5_learnIn 41 = .ok (.getfield 38, 3) := by decide +kernel
theorem dX5_learnIn_44 : decode cX5_learnIn 44 = .ok (.ifCond .eq 10, 3) := by decide +kernel
theorem dX5_learnIn_47 : decode cX5_learnIn 47 = .ok (.aload_n 0, 1) := by decide +kernel
theorem dX5_learnIn_48 : decode cX5_learnIn 48 = .ok (.getfield 22, 3) := by decide +kernel
theorem dX5_learnIn_51 : decode cX5_learnIn 51 = .ok (.goto 7, 3) := by decide +kernel
theorem dX5_learnIn_54 : decode cX5_learnIn 54 = .ok (.aload_n 0, 1) := by decide +kernel
theorem dX5_learnIn_55 : decode cX5_learnIn 55 = .ok (.getfield 28, 3) := by decide +kernel
theorem dX5_learnIn_58 : decode cX5_learnIn 58 = .ok (.istore_n 3, 1) := by decide +kernel
theorem dX5_learnIn_59 : decode cX5_learnIn 59 = .ok (.iconst 0, 1) := by decide +kernel
theorem dX5_learnIn_60 : decode cX5_learnIn 60 = .ok (.istore 4, 2) := by decide +kernel
theorem dX5_learnIn_62 : decode cX5_learnIn 62 = .ok (.iload 4, 2) := by decide +kernel
theorem dX5_learnIn_64 : decode cX5_learnIn 64 = .ok (.iconst 3, 1) := by decide +kernel
theorem dX5_learnIn_65 : decode cX5_learnIn 65 = .ok (.if_icmp .ge 76, 3) := by decide +kernel
theorem dX5_learnIn_68 : decode cX5_learnIn 68 = .ok (.iload_n 3, 1) := by decide +kernel
theorem dX5_learnIn_69 : decode cX5_learnIn 69 = .ok (.iload 4, 2) := by decide +kernel
theorem dX5_learnIn_71 : decode cX5_learnIn 71 = .ok (.invokestatic 89, 3) := by decide +kernel
theorem dX5_learnIn_74 : decode cX5_learnIn 74 = .ok (.istore 5, 2) := by decide +kernel
theorem dX5_learnIn_76 : decode cX5_learnIn 76 = .ok (.iload 5, 2) := by decide +kernel
theorem dX5_learnIn_78 : decode cX5_learnIn 78 = .ok (.aload_n 0, 1) := by decide +kernel
theorem dX5_learnIn_79 : decode cX5_learnIn 79 = .ok (.getfield 38, 3) := by decide +kernel
theorem dX5_learnIn_82 : decode cX5_learnIn 82 = .ok (.ifCond .eq 13, 3) := by decide +kernel
theorem dX5_learnIn_85 : decode cX5_learnIn 85 = .ok (.aload_n 0, 1) := by decide +kernel
theorem dX5_learnIn_86 : decode cX5_learnIn 86 = .ok (.getfield 18, 3) := by decide +kernel
theorem dX5_learnIn_89 : decode cX5_learnIn 89 = .ok (.iload 5, 2) := by decide +kernel
theorem dX5_learnIn_91 : decode cX5_learnIn 91 = .ok (.iaload, 1) := by decide +kernel
theorem dX5_learnIn_92 : decode cX5_learnIn 92 = .ok (.goto 10, 3) := by decide +kernel
theorem dX5_learnIn_95 : decode cX5_learnIn 95 = .ok (.aload_n 0, 1) := by decide +kernel
theorem dX5_learnIn_96 : decode cX5_learnIn 96 = .ok (.getfield 31, 3) := by decide +kernel
theorem dX5_learnIn_99 : decode cX5_learnIn 99 = .ok (.iload 5, 2) := by decide +kernel
theorem dX5_learnIn_101 : decode cX5_learnIn 101 = .ok (.iaload, 1) := by decide +kernel
theorem dX5_learnIn_102 : decode cX5_learnIn 102 = .ok (.invokestatic 92, 3) := by decide +kernel
theorem dX5_learnIn_105 : decode cX5_learnIn 105 = .ok (.istore 6, 2) := by decide +kernel
theorem dX5_learnIn_107 : decode cX5_learnIn 107 = .ok (.aload_n 0, 1) := by decide +kernel
theorem dX5_learnIn_108 : decode cX5_learnIn 108 = .ok (.aload_n 1, 1) := by decide +kernel
theorem dX5_learnIn_109 : decode cX5_learnIn 109 = .ok (.aload_n 2, 1) := by decide +kernel
theorem dX5_learnIn_110 : decode cX5_learnIn 110 = .ok (.iload 6, 2) := by decide +kernel
theorem dX5_learnIn_112 : decode cX5_learnIn 112 = .ok (.aload_n 1, 1) := by decide +kernel
theorem dX5_learnIn_113 : decode cX5_learnIn 113 = .ok (.aload_n 1, 1) := by decide +kernel
theorem dX5_learnIn_114 : decode cX5_learnIn 114 = .ok (.getfield 86, 3) := by decide +kernel
theorem dX5_learnIn_117 : decode cX5_learnIn 117 = .ok (.aload_n 0, 1) := by decide +kernel
theorem dX5_learnIn_118 : decode cX5_learnIn 118 = .ok (.getfield 15, 3) := by decide +kernel
theorem dX5_learnIn_121 : decode cX5_learnIn 121 = .ok (.iaload, 1) := by decide +kernel
theorem dX5_learnIn_122 : decode cX5_learnIn 122 = .ok (.aload_n 0, 1) := by decide +kernel
theorem dX5_learnIn_123 : decode cX5_learnIn 123 = .ok (.getfield 25, 3) := by decide +kernel
theorem dX5_learnIn_126 : decode cX5_learnIn 126 = .ok (.iload 4, 2) := by decide +kernel
theorem dX5_learnIn_128 : decode cX5_learnIn 128 = .ok (.iaload, 1) := by decide +kernel
theorem dX5_learnIn_129 : decode cX5_learnIn 129 = .ok (.invokevirtual 116, 3) := by decide +kernel
theorem dX5_learnIn_132 : decode cX5_learnIn 132 = .ok (.invokevirtual 119, 3) := by decide +kernel
theorem dX5_learnIn_135 : decode cX5_learnIn 135 = .ok (.iinc 4 1, 3) := by decide +kernel
theorem dX5_learnIn_138 : decode cX5_learnIn 138 = .ok (.goto (-76), 3) := by decide +kernel
theorem dX5_learnIn_141 : decode cX5_learnIn 141 = .ok (.aload_n 1, 1) := by decide +kernel
theorem dX5_learnIn_142 : decode cX5_learnIn 142 = .ok (.getfield 103, 3) := by decide +kernel
theorem dX5_learnIn_145 : decode cX5_learnIn 145 = .ok (.aload_n 0, 1) := by decide +kernel
theorem dX5_learnIn_146 : decode cX5_learnIn 146 = .ok (.getfield 15, 3) := by decide +kernel
theorem dX5_learnIn_149 : decode cX5_learnIn 149 = .ok (.iaload, 1) := by decide +kernel
theorem dX5_learnIn_150 : decode cX5_learnIn 150 = .ok (.iconst 2, 1) := by decide +kernel
theorem dX5_learnIn_151 : decode cX5_learnIn 151 = .ok (.if_icmp .eq 14, 3) := by decide +kernel
theorem dX5_learnIn_154 : decode cX5_learnIn 154 = .ok (.aload_n 0, 1) := by decide +kernel
theorem dX5_learnIn_155 : decode cX5_learnIn 155 = .ok (.iload_n 3, 1) := by decide +kernel
theorem dX5_learnIn_156 : decode cX5_learnIn 156 = .ok (.putfield 41, 3) := by decide +kernel
theorem dX5_learnIn_159 : decode cX5_learnIn 159 = .ok (.aload_n 0, 1) := by decide +kernel
theorem dX5_learnIn_160 : decode cX5_learnIn 160 = .ok (.aload_n 1, 1) := by decide +kernel
theorem dX5_learnIn_161 : decode cX5_learnIn 161 = .ok (.aload_n 2, 1) := by decide +kernel
theorem dX5_learnIn_162 : decode cX5_learnIn 162 = .ok (.invokevirtual 123, 3) := by decide +kernel
theorem dX5_learnIn_165 : decode cX5_learnIn 165 = .ok (.return_, 1) := by decide +kernel
theorem dX5_learnSign_0 : decode cX5_learnSign 0 = .ok (.iconst 0, 1) := by decide +kernel
theorem dX5_learnSign_1 : decode cX5_learnSign 1 = .ok (.istore 5, 2) := by decide +kernel
theorem dX5_learnSign_3 : decode cX5_learnSign 3 = .ok (.iload 5, 2) := by decide +kernel
theorem dX5_learnSign_5 : decode cX5_learnSign 5 = .ok (.bipush 16, 2) := by decide +kernel
theorem dX5_learnSign_7 : decode cX5_learnSign 7 = .ok (.if_icmp .ge 78, 3) := by decide +kernel
theorem dX5_learnSign_10 : decode cX5_learnSign 10 = .ok (.aload_n 1, 1) := by decide +kernel
theorem dX5_learnSign_11 : decode cX5_learnSign 11 = .ok (.getfield 126, 3) := by decide +kernel
theorem dX5_learnSign_14 : decode cX5_learnSign 14 = .ok (.aload_n 0, 1) := by decide +kernel
theorem dX5_learnSign_15 : decode cX5_learnSign 15 = .ok (.getfield 15, 3) := by decide +kernel
theorem dX5_learnSign_18 : decode cX5_learnSign 18 = .ok (.iload_n 3, 1) := by decide +kernel
theorem dX5_learnSign_19 : decode cX5_learnSign 19 = .ok (.iload 5, 2) := by decide +kernel
theorem dX5_learnSign_21 : decode cX5_learnSign 21 = .ok (.invokestatic 127, 3) := by decide +kernel
theorem dX5_learnSign_24 : decode cX5_learnSign 24 = .ok (.iaload, 1) := by decide +kernel
theorem dX5_learnSign_25 : decode cX5_learnSign 25 = .ok (.istore 6, 2) := by decide +kernel
theorem dX5_learnSign_27 : decode cX5_learnSign 27 = .ok (.iload 5, 2) := by decide +kernel
theorem dX5_learnSign_29 : decode cX5_learnSign 29 = .ok (.iload 4, 2) := by decide +kernel
theorem dX5_learnSign_31 : decode cX5_learnSign 31 = .ok (.if_icmp .ne 24, 3) := by decide +kernel
theorem dX5_learnSign_34 : decode cX5_learnSign 34 = .ok (.aload_n 1, 1) := by decide +kernel
theorem dX5_learnSign_35 : decode cX5_learnSign 35 = .ok (.aload_n 0, 1) := by decide +kernel
theorem dX5_learnSign_36 : decode cX5_learnSign 36 = .ok (.getfield 15, 3) := by decide +kernel
theorem dX5_learnSign_39 : decode cX5_learnSign 39 = .ok (.iload_n 3, 1) := by decide +kernel
theorem dX5_learnSign_40 : decode cX5_learnSign 40 = .ok (.iload 5, 2) := by decide +kernel
theorem dX5_learnSign_42 : decode cX5_learnSign 42 = .ok (.aload_n 2, 1) := by decide +kernel
theorem dX5_learnSign_43 : decode cX5_learnSign 43 = .ok (.iconst 0, 1) := by decide +kernel
theorem dX5_learnSign_44 : decode cX5_learnSign 44 = .ok (.iload 6, 2) := by decide +kernel
theorem dX5_learnSign_46 : decode cX5_learnSign 46 = .ok (.invokevirtual 130, 3) := by decide +kernel
theorem dX5_learnSign_49 : decode cX5_learnSign 49 = .ok (.invokevirtual 133, 3) := by decide +kernel
theorem dX5_learnSign_52 : decode cX5_learnSign 52 = .ok (.goto 27, 3) := by decide +kernel
theorem dX5_learnSign_55 : decode cX5_learnSign 55 = .ok (.iload 6, 2) := by decide +kernel
theorem dX5_learnSign_57 : decode cX5_learnSign 57 = .ok (.ifCond .le 22, 3) := by decide +kernel
theorem dX5_learnSign_60 : decode cX5_learnSign 60 = .ok (.aload_n 1, 1) := by decide +kernel
theorem dX5_learnSign_61 : decode cX5_learnSign 61 = .ok (.aload_n 0, 1) := by decide +kernel
theorem dX5_learnSign_62 : decode cX5_learnSign 62 = .ok (.getfield 15, 3) := by decide +kernel
theorem dX5_learnSign_65 : decode cX5_learnSign 65 = .ok (.iload_n 3, 1) := by decide +kernel
theorem dX5_learnSign_66 : decode cX5_learnSign 66 = .ok (.iload 5, 2) := by decide +kernel
theorem dX5_learnSign_68 : decode cX5_learnSign 68 = .ok (.aload_n 2, 1) := by decide +kernel
theorem dX5_learnSign_69 : decode cX5_learnSign 69 = .ok (.iconst 2, 1) := by decide +kernel
theorem dX5_learnSign_70 : decode cX5_learnSign 70 = .ok (.iload 6, 2) := by decide +kernel
theorem dX5_learnSign_72 : decode cX5_learnSign 72 = .ok (.invokevirtual 130, 3) := by decide +kernel
theorem dX5_learnSign_75 : decode cX5_learnSign 75 = .ok (.ineg, 1) := by decide +kernel
theorem dX5_learnSign_76 : decode cX5_learnSign 76 = .ok (.invokevirtual 133, 3) := by decide +kernel
theorem dX5_learnSign_79 : decode cX5_learnSign 79 = .ok (.iinc 5 1, 3) := by decide +kernel
theorem dX5_learnSign_82 : decode cX5_learnSign 82 = .ok (.goto (-79), 3) := by decide +kernel
theorem dX5_learnSign_85 : decode cX5_learnSign 85 = .ok (.return_, 1) := by decide +kernel
theorem dX5_learnOrder_0 : decode cX5_learnOrder 0 = .ok (.aload_n 0, 1) := by decide +kernel
theorem dX5_learnOrder_1 : decode cX5_learnOrder 1 = .ok (.getfield 15, 3) := by decide +kernel
theorem dX5_learnOrder_4 : decode cX5_learnOrder 4 = .ok (.bipush 6, 2) := by decide +kernel
theorem dX5_learnOrder_6 : decode cX5_learnOrder 6 = .ok (.imul, 1) := by decide +kernel
theorem dX5_learnOrder_7 : decode cX5_learnOrder 7 = .ok (.aload_n 0, 1) := by decide +kernel
theorem dX5_learnOrder_8 : decode cX5_learnOrder 8 = .ok (.getfield 41, 3) := by decide +kernel
theorem dX5_learnOrder_11 : decode cX5_learnOrder 11 = .ok (.iadd, 1) := by decide +kernel
theorem dX5_learnOrder_12 : decode cX5_learnOrder 12 = .ok (.istore_n 3, 1) := by decide +kernel
theorem dX5_learnOrder_13 : decode cX5_learnOrder 13 = .ok (.iconst 0, 1) := by decide +kernel
theorem dX5_learnOrder_14 : decode cX5_learnOrder 14 = .ok (.istore 4, 2) := by decide +kernel
theorem dX5_learnOrder_16 : decode cX5_learnOrder 16 = .ok (.iconst 0, 1) := by decide +kernel
theorem dX5_learnOrder_17 : decode cX5_learnOrder 17 = .ok (.istore 5, 2) := by decide +kernel
theorem dX5_learnOrder_19 : decode cX5_learnOrder 19 = .ok (.iload 5, 2) := by decide +kernel
theorem dX5_learnOrder_21 : decode cX5_learnOrder 21 = .ok (.bipush 6, 2) := by decide +kernel
theorem dX5_learnOrder_23 : decode cX5_learnOrder 23 = .ok (.if_icmp .ge 98, 3) := by decide +kernel
theorem dX5_learnOrder_26 : decode cX5_learnOrder 26 = .ok (.aload_n 1, 1) := by decide +kernel
theorem dX5_learnOrder_27 : decode cX5_learnOrder 27 = .ok (.getfield 137, 3) := by decide +kernel
theorem dX5_learnOrder_30 : decode cX5_learnOrder 30 = .ok (.aload_n 0, 1) := by decide +kernel
theorem dX5_learnOrder_31 : decode cX5_learnOrder 31 = .ok (.getfield 15, 3) := by decide +kernel
theorem dX5_learnOrder_34 : decode cX5_learnOrder 34 = .ok (.bipush 6, 2) := by decide +kernel
theorem dX5_learnOrder_36 : decode cX5_learnOrder 36 = .ok (.imul, 1) := by decide +kernel
theorem dX5_learnOrder_37 : decode cX5_learnOrder 37 = .ok (.iload 5, 2) := by decide +kernel
theorem dX5_learnOrder_39 : decode cX5_learnOrder 39 = .ok (.iadd, 1) := by decide +kernel
theorem dX5_learnOrder_40 : decode cX5_learnOrder 40 = .ok (.iaload, 1) := by decide +kernel
theorem dX5_learnOrder_41 : decode cX5_learnOrder 41 = .ok (.istore 6, 2) := by decide +kernel
theorem dX5_learnOrder_43 : decode cX5_learnOrder 43 = .ok (.iload 5, 2) := by decide +kernel
theorem dX5_learnOrder_45 : decode cX5_learnOrder 45 = .ok (.aload_n 0, 1) := by decide +kernel
theorem dX5_learnOrder_46 : decode cX5_learnOrder 46 = .ok (.getfield 41, 3) := by decide +kernel
theorem dX5_learnOrder_49 : decode cX5_learnOrder 49 = .ok (.if_icmp .ne 23, 3) := by decide +kernel
theorem dX5_learnOrder_52 : decode cX5_learnOrder 52 = .ok (.aload_n 1, 1) := by decide +kernel
theorem dX5_learnOrder_53 : decode cX5_learnOrder 53 = .ok (.aload_n 0, 1) := by decide +kernel
theorem dX5_learnOrder_54 : decode cX5_learnOrder 54 = .ok (.getfield 15, 3) := by decide +kernel
theorem dX5_learnOrder_57 : decode cX5_learnOrder 57 = .ok (.iload 5, 2) := by decide +kernel
theorem dX5_learnOrder_59 : decode cX5_learnOrder 59 = .ok (.aload_n 2, 1) := by decide +kernel
theorem dX5_learnOrder_60 : decode cX5_learnOrder 60 = .ok (.iconst 1, 1) := by decide +kernel
theorem dX5_learnOrder_61 : decode cX5_learnOrder 61 = .ok (.iload 6, 2) := by decide +kernel
theorem dX5_learnOrder_63 : decode cX5_learnOrder 63 = .ok (.invokevirtual 130, 3) := by decide +kernel
theorem dX5_learnOrder_66 : decode cX5_learnOrder 66 = .ok (.invokevirtual 140, 3) := by decide +kernel
theorem dX5_learnOrder_69 : decode cX5_learnOrder 69 = .ok (.goto 46, 3) := by decide +kernel
theorem dX5_learnOrder_72 : decode cX5_learnOrder 72 = .ok (.iload 6, 2) := by decide +kernel
theorem dX5_learnOrder_74 : decode cX5_learnOrder 74 = .ok (.ifCond .le 41, 3) := by decide +kernel
theorem dX5_learnOrder_77 : decode cX5_learnOrder 77 = .ok (.aload_n 1, 1) := by decide +kernel
theorem dX5_learnOrder_78 : decode cX5_learnOrder 78 = .ok (.aload_n 0, 1) := by decide +kernel
theorem dX5_learnOrder_79 : decode cX5_learnOrder 79 = .ok (.getfield 15, 3) := by decide +kernel
theorem dX5_learnOrder_82 : decode cX5_learnOrder 82 = .ok (.iload 5, 2) := by decide +kernel
theorem dX5_learnOrder_84 : decode cX5_learnOrder 84 = .ok (.aload_n 2, 1) := by decide +kernel
theorem dX5_learnOrder_85 : decode cX5_learnOrder 85 = .ok (.iconst 2, 1) := by decide +kernel
theorem dX5_learnOrder_86 : decode cX5_learnOrder 86 = .ok (.iload 6, 2) := by decide +kernel
theorem dX5_learnOrder_88 : decode cX5_learnOrder 88 = .ok (.invokevirtual 130, 3) := by decide +kernel
theorem dX5_learnOrder_91 : decode cX5_learnOrder 91 = .ok (.ineg, 1) := by decide +kernel
theorem dX5_learnOrder_92 : decode cX5_learnOrder 92 = .ok (.invokevirtual 140, 3) := by decide +kernel
theorem dX5_learnOrder_95 : decode cX5_learnOrder 95 = .ok (.iload 4, 2) := by decide +kernel
theorem dX5_learnOrder_97 : decode cX5_learnOrder 97 = .ok (.aload_n 1, 1) := by decide +kernel
theorem dX5_learnOrder_98 : decode cX5_learnOrder 98 = .ok (.getfield 137, 3) := by decide +kernel
theorem dX5_learnOrder_101 : decode cX5_learnOrder 101 = .ok (.aload_n 0, 1) := by decide +kernel
theorem dX5_learnOrder_102 : decode cX5_learnOrder 102 = .ok (.getfield 15, 3) := by decide +kernel
theorem dX5_learnOrder_105 : decode cX5_learnOrder 105 = .ok (.bipush 6, 2) := by decide +kernel
theorem dX5_learnOrder_107 : decode cX5_learnOrder 107 = .ok (.imul, 1) := by decide +kernel
theorem dX5_learnOrder_108 : decode cX5_learnOrder 108 = .ok (.iload 5, 2) := by decide +kernel
theorem dX5_learnOrder_110 : decode cX5_learnOrder 110 = .ok (.iadd, 1) := by decide +kernel
theorem dX5_learnOrder_111 : decode cX5_learnOrder 111 = .ok (.iaload, 1) := by decide +kernel
theorem dX5_learnOrder_112 : decode cX5_learnOrder 112 = .ok (.iadd, 1) := by decide +kernel
theorem dX5_learnOrder_113 : decode cX5_learnOrder 113 = .ok (.istore 4, 2) := by decide +kernel
theorem dX5_learnOrder_115 : decode cX5_learnOrder 115 = .ok (.iinc 5 1, 3) := by decide +kernel
theorem dX5_learnOrder_118 : decode cX5_learnOrder 118 = .ok (.goto (-99), 3) := by decide +kernel
theorem dX5_learnOrder_121 : decode cX5_learnOrder 121 = .ok (.aload_n 1, 1) := by decide +kernel
theorem dX5_learnOrder_122 : decode cX5_learnOrder 122 = .ok (.getfield 103, 3) := by decide +kernel
theorem dX5_learnOrder_125 : decode cX5_learnOrder 125 = .ok (.aload_n 0, 1) := by decide +kernel
theorem dX5_learnOrder_126 : decode cX5_learnOrder 126 = .ok (.getfield 15, 3) := by decide +kernel
theorem dX5_learnOrder_129 : decode cX5_learnOrder 129 = .ok (.iaload, 1) := by decide +kernel
theorem dX5_learnOrder_130 : decode cX5_learnOrder 130 = .ok (.ifCond .ne 81, 3) := by decide +kernel
theorem dX5_learnOrder_133 : decode cX5_learnOrder 133 = .ok (.aload_n 1, 1) := by decide +kernel
theorem dX5_learnOrder_134 : decode cX5_learnOrder 134 = .ok (.getfield 137, 3) := by decide +kernel
theorem dX5_learnOrder_137 : decode cX5_learnOrder 137 = .ok (.iload_n 3, 1) := by decide +kernel
theorem dX5_learnOrder_138 : decode cX5_learnOrder 138 = .ok (.iaload, 1) := by decide +kernel
theorem dX5_learnOrder_139 : decode cX5_learnOrder 139 = .ok (.iload 4, 2) := by decide +kernel
theorem dX5_learnOrder_141 : decode cX5_learnOrder 141 = .ok (.if_icmp .le 70, 3) := by decide +kernel
theorem dX5_learnOrder_144 : decode cX5_learnOrder 144 = .ok (.aload_n 1, 1) := by decide +kernel
theorem dX5_learnOrder_145 : decode cX5_learnOrder 145 = .ok (.getfield 137, 3) := by decide +kernel
theorem dX5_learnOrder_148 : decode cX5_learnOrder 148 = .ok (.iload_n 3, 1) := by decide +kernel
theorem dX5_learnOrder_149 : decode cX5_learnOrder 149 = .ok (.iaload, 1) := by decide +kernel
theorem dX5_learnOrder_150 : decode cX5_learnOrder 150 = .ok (.aload_n 2, 1) := by decide +kernel
theorem dX5_learnOrder_151 : decode cX5_learnOrder 151 = .ok (.iconst 3, 1) := by decide +kernel
theorem dX5_learnOrder_152 : decode cX5_learnOrder 152 = .ok (.aload_n 1, 1) := by decide +kernel
theorem dX5_learnOrder_153 : decode cX5_learnOrder 153 = .ok (.getfield 137, 3) := by decide +kernel
theorem dX5_learnOrder_156 : decode cX5_learnOrder 156 = .ok (.iload_n 3, 1) := by decide +kernel
theorem dX5_learnOrder_157 : decode cX5_learnOrder 157 = .ok (.iaload, 1) := by decide +kernel
theorem dX5_learnOrder_158 : decode cX5_learnOrder 158 = .ok (.invokevirtual 130, 3) := by decide +kernel
theorem dX5_learnOrder_161 : decode cX5_learnOrder 161 = .ok (.if_icmp .lt 50, 3) := by decide +kernel
theorem dX5_learnOrder_164 : decode cX5_learnOrder 164 = .ok (.iconst 0, 1) := by decide +kernel
theorem dX5_learnOrder_165 : decode cX5_learnOrder 165 = .ok (.istore 5, 2) := by decide +kernel
theorem dX5_learnOrder_167 : decode cX5_learnOrder 167 = .ok (.iload 5, 2) := by decide +kernel
theorem dX5_learnOrder_169 : decode cX5_learnOrder 169 = .ok (.bipush 6, 2) := by decide +kernel
theorem dX5_learnOrder_171 : decode cX5_learnOrder 171 = .ok (.if_icmp .ge 40, 3) := by decide +kernel
theorem dX5_learnOrder_174 : decode cX5_learnOrder 174 = .ok (.aload_n 1, 1) := by decide +kernel
theorem dX5_learnOrder_175 : decode cX5_learnOrder 175 = .ok (.getfield 137, 3) := by decide +kernel
theorem dX5_learnOrder_178 : decode cX5_learnOrder 178 = .ok (.aload_n 0, 1) := by decide +kernel
theorem dX5_learnOrder_179 : decode cX5_learnOrder 179 = .ok (.getfield 15, 3) := by decide +kernel
theorem dX5_learnOrder_182 : decode cX5_learnOrder 182 = .ok (.bipush 6, 2) := by decide +kernel
theorem dX5_learnOrder_184 : decode cX5_learnOrder 184 = .ok (.imul, 1) := by decide +kernel
theorem dX5_learnOrder_185 : decode cX5_learnOrder 185 = .ok (.iload 5, 2) := by decide +kernel
theorem dX5_learnOrder_187 : decode cX5_learnOrder 187 = .ok (.iadd, 1) := by decide +kernel
theorem dX5_learnOrder_188 : decode cX5_learnOrder 188 = .ok (.iload 5, 2) := by decide +kernel
theorem dX5_learnOrder_190 : decode cX5_learnOrder 190 = .ok (.aload_n 0, 1) := by decide +kernel
theorem dX5_learnOrder_191 : decode cX5_learnOrder 191 = .ok (.getfield 41, 3) := by decide +kernel
theorem dX5_learnOrder_194 : decode cX5_learnOrder 194 = .ok (.if_icmp .ne 9, 3) := by decide +kernel
theorem dX5_learnOrder_197 : decode cX5_learnOrder 197 = .ok (.sipush 999, 3) := by decide +kernel
theorem dX5_learnOrder_200 : decode cX5_learnOrder 200 = .ok (.goto 4, 3) := by decide +kernel
theorem dX5_learnOrder_203 : decode cX5_learnOrder 203 = .ok (.iconst 0, 1) := by decide +kernel
theorem dX5_learnOrder_204 : decode cX5_learnOrder 204 = .ok (.iastore, 1) := by decide +kernel
theorem dX5_learnOrder_205 : decode cX5_learnOrder 205 = .ok (.iinc 5 1, 3) := by decide +kernel
theorem dX5_learnOrder_208 : decode cX5_learnOrder 208 = .ok (.goto (-41), 3) := by decide +kernel
theorem dX5_learnOrder_211 : decode cX5_learnOrder 211 = .ok (.return_, 1) := by decide +kernel
theorem dX5_strengthenIn_0 : decode cX5_strengthenIn 0 = .ok (.aload_n 1, 1) := by decide +kernel
theorem dX5_strengthenIn_1 : decode cX5_strengthenIn 1 = .ok (.getfield 103, 3) := by decide +kernel
theorem dX5_strengthenIn_4 : decode cX5_strengthenIn 4 = .ok (.aload_n 0, 1) := by decide +kernel
theorem dX5_strengthenIn_5 : decode cX5_strengthenIn 5 = .ok (.getfield 9, 3) := by decide +kernel
theorem dX5_strengthenIn_8 : decode cX5_strengthenIn 8 = .ok (.iaload, 1) := by decide +kernel
theorem dX5_strengthenIn_9 : decode cX5_strengthenIn 9 = .ok (.iconst 3, 1) := by decide +kernel
theorem dX5_strengthenIn_10 : decode cX5_strengthenIn 10 = .ok (.if_icmp .ne 4, 3) := by decide +kernel
theorem dX5_strengthenIn_13 : decode cX5_strengthenIn 13 = .ok (.return_, 1) := by decide +kernel
theorem dX5_strengthenIn_14 : decode cX5_strengthenIn 14 = .ok (.iconst 0, 1) := by decide +kernel
theorem dX5_strengthenIn_15 : decode cX5_strengthenIn 15 = .ok (.istore_n 2, 1) := by decide +kernel
theorem dX5_strengthenIn_16 : decode cX5_strengthenIn 16 = .ok (.iload_n 2, 1) := by decide +kernel
theorem dX5_strengthenIn_17 : decode cX5_strengthenIn 17 = .ok (.iconst 3, 1) := by decide +kernel
theorem dX5_strengthenIn_18 : decode cX5_strengthenIn 18 = .ok (.if_icmp .ge 29, 3) := by decide +kernel
theorem dX5_strengthenIn_21 : decode cX5_strengthenIn 21 = .ok (.aload_n 1, 1) := by decide +kernel
theorem dX5_strengthenIn_22 : decode cX5_strengthenIn 22 = .ok (.aload_n 0, 1) := by decide +kernel
theorem dX5_strengthenIn_23 : decode cX5_strengthenIn 23 = .ok (.getfield 9, 3) := by decide +kernel
theorem dX5_strengthenIn_26 : decode cX5_strengthenIn 26 = .ok (.aload_n 0, 1) := by decide +kernel
theorem dX5_strengthenIn_27 : decode cX5_strengthenIn 27 = .ok (.iload_n 2, 1) := by decide +kernel
theorem dX5_strengthenIn_28 : decode cX5_strengthenIn 28 = .ok (.invokevirtual 76, 3) := by decide +kernel
theorem dX5_strengthenIn_31 : decode cX5_strengthenIn 31 = .ok (.aload_n 0, 1) := by decide +kernel
theorem dX5_strengthenIn_32 : decode cX5_strengthenIn 32 = .ok (.getfield 25, 3) := by decide +kernel
theorem dX5_strengthenIn_35 : decode cX5_strengthenIn 35 = .ok (.iload_n 2, 1) := by decide +kernel
theorem dX5_strengthenIn_36 : decode cX5_strengthenIn 36 = .ok (.iaload, 1) := by decide +kernel
theorem dX5_strengthenIn_37 : decode cX5_strengthenIn 37 = .ok (.iconst 1, 1) := by decide +kernel
theorem dX5_strengthenIn_38 : decode cX5_strengthenIn 38 = .ok (.invokevirtual 133, 3) := by decide +kernel
theorem dX5_strengthenIn_41 : decode cX5_strengthenIn 41 = .ok (.iinc 2 1, 3) := by decide +kernel
theorem dX5_strengthenIn_44 : decode cX5_strengthenIn 44 = .ok (.goto (-28), 3) := by decide +kernel
theorem dX5_strengthenIn_47 : decode cX5_strengthenIn 47 = .ok (.aload_n 1, 1) := by decide +kernel
theorem dX5_strengthenIn_48 : decode cX5_strengthenIn 48 = .ok (.getfield 103, 3) := by decide +kernel
theorem dX5_strengthenIn_51 : decode cX5_strengthenIn 51 = .ok (.aload_n 0, 1) := by decide +kernel
theorem dX5_strengthenIn_52 : decode cX5_strengthenIn 52 = .ok (.getfield 9, 3) := by decide +kernel
theorem dX5_strengthenIn_55 : decode cX5_strengthenIn 55 = .ok (.iaload, 1) := by decide +kernel
theorem dX5_strengthenIn_56 : decode cX5_strengthenIn 56 = .ok (.iconst 2, 1) := by decide +kernel
theorem dX5_strengthenIn_57 : decode cX5_strengthenIn 57 = .ok (.if_icmp .eq 16, 3) := by decide +kernel
theorem dX5_strengthenIn_60 : decode cX5_strengthenIn 60 = .ok (.aload_n 1, 1) := by decide +kernel
theorem dX5_strengthenIn_61 : decode cX5_strengthenIn 61 = .ok (.aload_n 0, 1) := by decide +kernel
theorem dX5_strengthenIn_62 : decode cX5_strengthenIn 62 = .ok (.getfield 9, 3) := by decide +kernel
theorem dX5_strengthenIn_65 : decode cX5_strengthenIn 65 = .ok (.aload_n 0, 1) := by decide +kernel
theorem dX5_strengthenIn_66 : decode cX5_strengthenIn 66 = .ok (.getfield 22, 3) := by decide +kernel
theorem dX5_strengthenIn_69 : decode cX5_strengthenIn 69 = .ok (.iconst 1, 1) := by decide +kernel
theorem dX5_strengthenIn_70 : decode cX5_strengthenIn 70 = .ok (.invokevirtual 140, 3) := by decide +kernel
theorem dX5_strengthenIn_73 : decode cX5_strengthenIn 73 = .ok (.return_, 1) := by decide +kernel
theorem dX6_init_0 : decode cX6_init 0 = .ok (.aload_n 0, 1) := by decide +kernel
theorem dX6_init_1 : decode cX6_init 1 = .ok (.invokespecial 3, 3) := by decide +kernel
theorem dX6_init_4 : decode cX6_init 4 = .ok (.aload_n 0, 1) := by decide +kernel
theorem dX6_init_5 : decode cX6_init 5 = .ok (.iconst 1, 1) := by decide +kernel
theorem dX6_init_6 : decode cX6_init 6 = .ok (.putfield 9, 3) := by decide +kernel
theorem dX6_init_9 : decode cX6_init 9 = .ok (.aload_n 0, 1) := by decide +kernel
theorem dX6_init_10 : decode cX6_init 10 = .ok (.iconst 1, 1) := by decide +kernel
theorem dX6_init_11 : decode cX6_init 11 = .ok (.putfield 15, 3) := by decide +kernel
theorem dX6_init_14 : decode cX6_init 14 = .ok (.aload_n 0, 1) := by decide +kernel
theorem dX6_init_15 : decode cX6_init 15 = .ok (.iconst 0, 1) := by decide +kernel
theorem dX6_init_16 : decode cX6_init 16 = .ok (.putfield 18, 3) := by decide +kernel
theorem dX6_init_19 : decode cX6_init 19 = .ok (.aload_n 0, 1) := by decide +kernel
theorem dX6_init_20 : decode cX6_init 20 = .ok (.sipush 1000, 3) := by decide +kernel
theorem dX6_init_23 : decode cX6_init 23 = .ok (.putfield 21, 3) := by decide +kernel
theorem dX6_init_26 : decode cX6_init 26 = .ok (.aload_n 0, 1) := by decide +kernel
theorem dX6_init_27 : decode cX6_init 27 = .ok (.bipush 50, 2) := by decide +kernel
theorem dX6_init_29 : decode cX6_init 29 = .ok (.putfield 24, 3) := by decide +kernel
theorem dX6_init_32 : decode cX6_init 32 = .ok (.aload_n 0, 1) := by decide +kernel
theorem dX6_init_33 : decode cX6_init 33 = .ok (.iconst (-1), 1) := by decide +kernel
theorem dX6_init_34 : decode cX6_init 34 = .ok (.putfield 27, 3) := by decide +kernel
theorem dX6_init_37 : decode cX6_init 37 = .ok (.aload_n 0, 1) := by decide +kernel
theorem dX6_init_38 : decode cX6_init 38 = .ok (.iconst 0, 1) := by decide +kernel
theorem dX6_init_39 : decode cX6_init 39 = .ok (.putfield 30, 3) := by decide +kernel
theorem dX6_init_42 : decode cX6_init 42 = .ok (.aload_n 0, 1) := by decide +kernel
theorem dX6_init_43 : decode cX6_init 43 = .ok (.bipush 24, 2) := by decide +kernel
theorem dX6_init_45 : decode cX6_init 45 = .ok (.newarray .int, 2) := by decide +kernel
theorem dX6_init_47 : decode cX6_init 47 = .ok (.putfield 33, 3) := by decide +kernel
theorem dX6_init_50 : decode cX6_init 50 = .ok (.aload_n 0, 1) := by decide +kernel
theorem dX6_init_51 : decode cX6_init 51 = .ok (.bipush 24, 2) := by decide +kernel
theorem dX6_init_53 : decode cX6_init 53 = .ok (.newarray .int, 2) := by decide +kernel
theorem dX6_init_55 : decode cX6_init 55 = .ok (.putfield 37, 3) := by decide +kernel
theorem dX6_init_58 : decode cX6_init 58 = .ok (.aload_n 0, 1) := by decide +kernel
theorem dX6_init_59 : decode cX6_init 59 = .ok (.bipush 24, 2) := by decide +kernel
theorem dX6_init_61 : decode cX6_init 61 = .ok (.newarray .int, 2) := by decide +kernel
theorem dX6_init_63 : decode cX6_init 63 = .ok (.putfield 40, 3) := by decide +kernel
theorem dX6_init_66 : decode cX6_init 66 = .ok (.aload_n 0, 1) := by decide +kernel
theorem dX6_init_67 : decode cX6_init 67 = .ok (.bipush 24, 2) := by decide +kernel
theorem dX6_init_69 : decode cX6_init 69 = .ok (.newarray .int, 2) := by decide +kernel
theorem dX6_init_71 : decode cX6_init 71 = .ok (.putfield 43, 3) := by decide +kernel
theorem dX6_init_74 : decode cX6_init 74 = .ok (.aload_n 0, 1) := by decide +kernel
theorem dX6_init_75 : decode cX6_init 75 = .ok (.bipush 24, 2) := by decide +kernel
theorem dX6_init_77 : decode cX6_init 77 = .ok (.newarray .int, 2) := by decide +kernel
theorem dX6_init_79 : decode cX6_init 79 = .ok (.putfield 46, 3) := by decide +kernel
theorem dX6_init_82 : decode cX6_init 82 = .ok (.aload_n 0, 1) := by decide +kernel
theorem dX6_init_83 : decode cX6_init 83 = .ok (.bipush 24, 2) := by decide +kernel
theorem dX6_init_85 : decode cX6_init 85 = .ok (.newarray .int, 2) := by decide +kernel
theorem dX6_init_87 : decode cX6_init 87 = .ok (.putfield 49, 3) := by decide +kernel
theorem dX6_init_90 : decode cX6_init 90 = .ok (.aload_n 0, 1) := by decide +kernel
theorem dX6_init_91 : decode cX6_init 91 = .ok (.bipush 24, 2) := by decide +kernel
theorem dX6_init_93 : decode cX6_init 93 = .ok (.newarray .int, 2) := by decide +kernel
theorem dX6_init_95 : decode cX6_init 95 = .ok (.putfield 52, 3) := by decide +kernel
theorem dX6_init_98 : decode cX6_init 98 = .ok (.aload_n 0, 1) := by decide +kernel
theorem dX6_init_99 : decode cX6_init 99 = .ok (.sipush 3072, 3) := by decide +kernel
theorem dX6_init_102 : decode cX6_init 102 = .ok (.newarray .int, 2) := by decide +kernel
theorem dX6_init_104 : decode cX6_init 104 = .ok (.putfield 55, 3) := by decide +kernel
theorem dX6_init_107 : decode cX6_init 107 = .ok (.aload_n 0, 1) := by decide +kernel
theorem dX6_init_108 : decode cX6_init 108 = .ok (.sipush 144, 3) := by decide +kernel
theorem dX6_init_111 : decode cX6_init 111 = .ok (.newarray .int, 2) := by decide +kernel
theorem dX6_init_113 : decode cX6_init 113 = .ok (.putfield 58, 3) := by decide +kernel
theorem dX6_init_116 : decode cX6_init 116 = .ok (.aload_n 0, 1) := by decide +kernel
theorem dX6_init_117 : decode cX6_init 117 = .ok (.bipush 48, 2) := by decide +kernel
theorem dX6_init_119 : decode cX6_init 119 = .ok (.newarray .int, 2) := by decide +kernel
theorem dX6_init_121 : decode cX6_init 121 = .ok (.putfield 61, 3) := by decide +kernel
theorem dX6_init_124 : decode cX6_init 124 = .ok (.return_, 1) := by decide +kernel
theorem dX6_become_0 : decode cX6_become 0 = .ok (.aload_n 0, 1) := by decide +kernel
theorem dX6_become_1 : decode cX6_become 1 = .ok (.aload_n 1, 1) := by decide +kernel
theorem dX6_become_2 : decode cX6_become 2 = .ok (.getfield 9, 3) := by decide +kernel
theorem dX6_become_5 : decode cX6_become 5 = .ok (.putfield 9, 3) := by decide +kernel
theorem dX6_become_8 : decode cX6_become 8 = .ok (.aload_n 0, 1) := by decide +kernel
theorem dX6_become_9 : decode cX6_become 9 = .ok (.aload_n 1, 1) := by decide +kernel
theorem dX6_become_10 : decode cX6_become 10 = .ok (.getfield 15, 3) := by decide +kernel
theorem dX6_become_13 : decode cX6_become 13 = .ok (.putfield 15, 3) := by decide +kernel
theorem dX6_become_16 : decode cX6_become 16 = .ok (.aload_n 0, 1) := by decide +kernel
theorem dX6_become_17 : decode cX6_become 17 = .ok (.aload_n 1, 1) := by decide +kernel
theorem dX6_become_18 : decode cX6_become 18 = .ok (.getfield 18, 3) := by decide +kernel
theorem dX6_become_21 : decode cX6_become 21 = .ok (.putfield 18, 3) := by decide +kernel
theorem dX6_become_24 : decode cX6_become 24 = .ok (.aload_n 0, 1) := by decide +kernel
theorem dX6_become_25 : decode cX6_become 25 = .ok (.aload_n 1, 1) := by decide +kernel
theorem dX6_become_26 : decode cX6_become 26 = .ok (.getfield 21, 3) := by decide +kernel
theorem dX6_become_29 : decode cX6_become 29 = .ok (.putfield 21, 3) := by decide +kernel
theorem dX6_become_32 : decode cX6_become 32 = .ok (.aload_n 0, 1) := by decide +kernel
theorem dX6_become_33 : decode cX6_become 33 = .ok (.aload_n 1, 1) := by decide +kernel
theorem dX6_become_34 : decode cX6_become 34 = .ok (.getfield 24, 3) := by decide +kernel
theorem dX6_become_37 : decode cX6_become 37 = .ok (.putfield 24, 3) := by decide +kernel
theorem dX6_become_40 : decode cX6_become 40 = .ok (.aload_n 0, 1) := by decide +kernel
theorem dX6_become_41 : decode cX6_become 41 = .ok (.aload_n 1, 1) := by decide +kernel
theorem dX6_become_42 : decode cX6_become 42 = .ok (.getfield 27, 3) := by decide +kernel
theorem dX6_become_45 : decode cX6_become 45 = .ok (.putfield 27, 3) := by decide +kernel
theorem dX6_become_48 : decode cX6_become 48 = .ok (.aload_n 0, 1) := by decide +kernel
theorem dX6_become_49 : decode cX6_become 49 = .ok (.aload_n 1, 1) := by decide +kernel
theorem dX6_become_50 : decode cX6_become 50 = .ok (.getfield 30, 3) := by decide +kernel
theorem dX6_become_53 : decode cX6_become 53 = .ok (.putfield 30, 3) := by decide +kernel
theorem dX6_become_56 : decode cX6_become 56 = .ok (.aload_n 1, 1) := by decide +kernel
theorem dX6_become_57 : decode cX6_become 57 = .ok (.getfield 33, 3) := by decide +kernel
theorem dX6_become_60 : decode cX6_become 60 = .ok (.iconst 0, 1) := by decide +kernel
theorem dX6_become_61 : decode cX6_become 61 = .ok (.aload_n 0, 1) := by decide +kernel
theorem dX6_become_62 : decode cX6_become 62 = .ok (.getfield 33, 3) := by decide +kernel
theorem dX6_become_65 : decode cX6_become 65 = .ok (.iconst 0, 1) := by decide +kernel
theorem dX6_become_66 : decode cX6_become 66 = .ok (.bipush 24, 2) := by decide +kernel
theorem dX6_become_68 : decode cX6_become 68 = .ok (.invokestatic 64, 3) := by decide +kernel
theorem dX6_become_71 : decode cX6_become 71 = .ok (.aload_n 1, 1) := by decide +kernel
theorem dX6_become_72 : decode cX6_become 72 = .ok (.getfield 37, 3) := by decide +kernel
theorem dX6_become_75 : decode cX6_become 75 = .ok (.iconst 0, 1) := by decide +kernel
theorem dX6_become_76 : decode cX6_become 76 = .ok (.aload_n 0, 1) := by decide +kernel
theorem dX6_become_77 : decode cX6_become 77 = .ok (.getfield 37, 3) := by decide +kernel
theorem dX6_become_80 : decode cX6_become 80 = .ok (.iconst 0, 1) := by decide +kernel
theorem dX6_become_81 : decode cX6_become 81 = .ok (.bipush 24, 2) := by decide +kernel
theorem dX6_become_83 : decode cX6_become 83 = .ok (.invokestatic 64, 3) := by decide +kernel
theorem dX6_become_86 : decode cX6_become 86 = .ok (.aload_n 1, 1) := by decide +kernel
theorem dX6_become_87 : decode cX6_become 87 = .ok (.getfield 40, 3) := by decide +kernel
theorem dX6_become_90 : decode cX6_become 90 = .ok (.iconst 0, 1) := by decide +kernel
theorem dX6_become_91 : decode cX6_become 91 = .ok (.aload_n 0, 1) := by decide +kernel
theorem dX6_become_92 : decode cX6_become 92 = .ok (.getfield 40, 3) := by decide +kernel
theorem dX6_become_95 : decode cX6_become 95 = .ok (.iconst 0, 1) := by decide +kernel
theorem dX6_become_96 : decode cX6_become 96 = .ok (.bipush 24, 2) := by decide +kernel
theorem dX6_become_98 : decode cX6_become 98 = .ok (.invokestatic 64, 3) := by decide +kernel
theorem dX6_become_101 : decode cX6_become 101 = .ok (.aload_n 1, 1) := by decide +kernel
theorem dX6_become_102 : decode cX6_become 102 = .ok (.getfield 43, 3) := by decide +kernel
theorem dX6_become_105 : decode cX6_become 105 = .ok (.iconst 0, 1) := by decide +kernel
theorem dX6_become_106 : decode cX6_become 106 = .ok (.aload_n 0, 1) := by decide +kernel
theorem dX6_become_107 : decode cX6_become 107 = .ok (.getfield 43, 3) := by decide +kernel
theorem dX6_become_110 : decode cX6_become 110 = .ok (.iconst 0, 1) := by decide +kernel
theorem dX6_become_111 : decode cX6_become 111 = .ok (.bipush 24, 2) := by decide +kernel
theorem dX6_become_113 : decode cX6_become 113 = .ok (.invokestatic 64, 3) := by decide +kernel
theorem dX6_become_116 : decode cX6_become 116 = .ok (.aload_n 1, 1) := by decide +kernel
theorem dX6_become_117 : decode cX6_become 117 = .ok (.getfield 46, 3) := by decide +kernel
theorem dX6_become_120 : decode cX6_become 120 = .ok (.iconst 0, 1) := by decide +kernel
theorem dX6_become_121 : decode cX6_become 121 = .ok (.aload_n 0, 1) := by decide +kernel
theorem dX6_become_122 : decode cX6_become 122 = .ok (.getfield 46, 3) := by decide +kernel
theorem dX6_become_125 : decode cX6_become 125 = .ok (.iconst 0, 1) := by decide +kernel
theorem dX6_become_126 : decode cX6_become 126 = .ok (.bipush 24, 2) := by decide +kernel
theorem dX6_become_128 : decode cX6_become 128 = .ok (.invokestatic 64, 3) := by decide +kernel
theorem dX6_become_131 : decode cX6_become 131 = .ok (.aload_n 1, 1) := by decide +kernel
theorem dX6_become_132 : decode cX6_become 132 = .ok (.getfield 49, 3) := by decide +kernel
theorem dX6_become_135 : decode cX6_become 135 = .ok (.iconst 0, 1) := by decide +kernel
theorem dX6_become_136 : decode cX6_become 136 = .ok (.aload_n 0, 1) := by decide +kernel
theorem dX6_become_137 : decode cX6_become 137 = .ok (.getfield 49, 3) := by decide +kernel
theorem dX6_become_140 : decode cX6_become 140 = .ok (.iconst 0, 1) := by decide +kernel
theorem dX6_become_141 : decode cX6_become 141 = .ok (.bipush 24, 2) := by decide +kernel
theorem dX6_become_143 : decode cX6_become 143 = .ok (.invokestatic 64, 3) := by decide +kernel
theorem dX6_become_146 : decode cX6_become 146 = .ok (.aload_n 1, 1) := by decide +kernel
theorem dX6_become_147 : decode cX6_become 147 = .ok (.getfield 52, 3) := by decide +kernel
theorem dX6_become_150 : decode cX6_become 150 = .ok (.iconst 0, 1) := by decide +kernel
theorem dX6_become_151 : decode cX6_become 151 = .ok (.aload_n 0, 1) := by decide +kernel
theorem dX6_become_152 : decode cX6_become 152 = .ok (.getfield 52, 3) := by decide +kernel
theorem dX6_become_155 : decode cX6_become 155 = .ok (.iconst 0, 1) := by decide +kernel
theorem dX6_become_156 : decode cX6_become 156 = .ok (.bipush 24, 2) := by decide +kernel
theorem dX6_become_158 : decode cX6_become 158 = .ok (.invokestatic 64, 3) := by decide +kernel
theorem dX6_become_161 : decode cX6_become 161 = .ok (.aload_n 1, 1) := by decide +kernel
theorem dX6_become_162 : decode cX6_become 162 = .ok (.getfield 55, 3) := by decide +kernel
theorem dX6_become_165 : decode cX6_become 165 = .ok (.iconst 0, 1) := by decide +kernel
theorem dX6_become_166 : decode cX6_become 166 = .ok (.aload_n 0, 1) := by decide +kernel
theorem dX6_become_167 : decode cX6_become 167 = .ok (.getfield 55, 3) := by decide +kernel
theorem dX6_become_170 : decode cX6_become 170 = .ok (.iconst 0, 1) := by decide +kernel
theorem dX6_become_171 : decode cX6_become 171 = .ok (.sipush 3072, 3) := by decide +kernel
theorem dX6_become_174 : decode cX6_become 174 = .ok (.invokestatic 64, 3) := by decide +kernel
theorem dX6_become_177 : decode cX6_become 177 = .ok (.aload_n 1, 1) := by decide +kernel
theorem dX6_become_178 : decode cX6_become 178 = .ok (.getfield 58, 3) := by decide +kernel
theorem dX6_become_181 : decode cX6_become 181 = .ok (.iconst 0, 1) := by decide +kernel
theorem dX6_become_182 : decode cX6_become 182 = .ok (.aload_n 0, 1) := by decide +kernel
theorem dX6_become_183 : decode cX6_become 183 = .ok (.getfield 58, 3) := by decide +kernel
theorem dX6_become_186 : decode cX6_become 186 = .ok (.iconst 0, 1) := by decide +kernel
theorem dX6_become_187 : decode cX6_become 187 = .ok (.sipush 144, 3) := by decide +kernel
theorem dX6_become_190 : decode cX6_become 190 = .ok (.invokestatic 64, 3) := by decide +kernel
theorem dX6_become_193 : decode cX6_become 193 = .ok (.aload_n 1, 1) := by decide +kernel
theorem dX6_become_194 : decode cX6_become 194 = .ok (.getfield 61, 3) := by decide +kernel
theorem dX6_become_197 : decode cX6_become 197 = .ok (.iconst 0, 1) := by decide +kernel
theorem dX6_become_198 : decode cX6_become 198 = .ok (.aload_n 0, 1) := by decide +kernel
theorem dX6_become_199 : decode cX6_become 199 = .ok (.getfield 61, 3) := by decide +kernel
theorem dX6_become_202 : decode cX6_become 202 = .ok (.iconst 0, 1) := by decide +kernel
theorem dX6_become_203 : decode cX6_become 203 = .ok (.bipush 48, 2) := by decide +kernel
theorem dX6_become_205 : decode cX6_become 205 = .ok (.invokestatic 64, 3) := by decide +kernel
theorem dX6_become_208 : decode cX6_become 208 = .ok (.return_, 1) := by decide +kernel
theorem dX6_takeBackSaying_0 : decode cX6_takeBackSaying 0 = .ok (.aload_n 0, 1) := by decide +kernel
theorem dX6_takeBackSaying_1 : decode cX6_takeBackSaying 1 = .ok (.aload_n 1, 1) := by decide +kernel
theorem dX6_takeBackSaying_2 : decode cX6_takeBackSaying 2 = .ok (.getfield 15, 3) := by decide +kernel
theorem dX6_takeBackSaying_5 : decode cX6_takeBackSaying 5 = .ok (.putfield 15, 3) := by decide +kernel
theorem dX6_takeBackSaying_8 : decode cX6_takeBackSaying 8 = .ok (.aload_n 1, 1) := by decide +kernel
theorem dX6_takeBackSaying_9 : decode cX6_takeBackSaying 9 = .ok (.getfield 61, 3) := by decide +kernel
theorem dX6_takeBackSaying_12 : decode cX6_takeBackSaying 12 = .ok (.iconst 0, 1) := by decide +kernel
theorem dX6_takeBackSaying_13 : decode cX6_takeBackSaying 13 = .ok (.aload_n 0, 1) := by decide +kernel
theorem dX6_takeBackSaying_14 : decode cX6_takeBackSaying 14 = .ok (.getfield 61, 3) := by decide +kernel
theorem dX6_takeBackSaying_17 : decode cX6_takeBackSaying 17 = .ok (.iconst 0, 1) := by decide +kernel
theorem dX6_takeBackSaying_18 : decode cX6_takeBackSaying 18 = .ok (.bipush 48, 2) := by decide +kernel
theorem dX6_takeBackSaying_20 : decode cX6_takeBackSaying 20 = .ok (.invokestatic 64, 3) := by decide +kernel
theorem dX6_takeBackSaying_23 : decode cX6_takeBackSaying 23 = .ok (.return_, 1) := by decide +kernel
theorem dX6_advance_0 : decode cX6_advance 0 = .ok (.iload_n 0, 1) := by decide +kernel
theorem dX6_advance_1 : decode cX6_advance 1 = .ok (.ldc 70, 2) := by decide +kernel
theorem dX6_advance_3 : decode cX6_advance 3 = .ok (.imul, 1) := by decide +kernel
theorem dX6_advance_4 : decode cX6_advance 4 = .ok (.sipush 12345, 3) := by decide +kernel
theorem dX6_advance_7 : decode cX6_advance 7 = .ok (.iadd, 1) := by decide +kernel
theorem dX6_advance_8 : decode cX6_advance 8 = .ok (.ireturn, 1) := by decide +kernel
theorem dX6_pick_0 : decode cX6_pick 0 = .ok (.iload_n 1, 1) := by decide +kernel
theorem dX6_pick_1 : decode cX6_pick 1 = .ok (.ifCond .gt 7, 3) := by decide +kernel
theorem dX6_pick_4 : decode cX6_pick 4 = .ok (.iconst 0, 1) := by decide +kernel
theorem dX6_pick_5 : decode cX6_pick 5 = .ok (.goto 13, 3) := by decide +kernel
theorem dX6_pick_8 : decode cX6_pick 8 = .ok (.iload_n 0, 1) := by decide +kernel
theorem dX6_pick_9 : decode cX6_pick 9 = .ok (.bipush 16, 2) := by decide +kernel
theorem dX6_pick_11 : decode cX6_pick 11 = .ok (.iushr, 1) := by decide +kernel
theorem dX6_pick_12 : decode cX6_pick 12 = .ok (.sipush 32767, 3) := by decide +kernel
theorem dX6_pick_15 : decode cX6_pick 15 = .ok (.iand, 1) := by decide +kernel
theorem dX6_pick_16 : decode cX6_pick 16 = .ok (.iload_n 1, 1) := by decide +kernel
theorem dX6_pick_17 : decode cX6_pick 17 = .ok (.irem, 1) := by decide +kernel
theorem dX6_pick_18 : decode cX6_pick 18 = .ok (.ireturn, 1) := by decide +kernel
theorem dX6_drawChoice_0 : decode cX6_drawChoice 0 = .ok (.aload_n 0, 1) := by decide +kernel
theorem dX6_drawChoice_1 : decode cX6_drawChoice 1 = .ok (.aload_n 0, 1) := by decide +kernel
theorem dX6_drawChoice_2 : decode cX6_drawChoice 2 = .ok (.getfield 9, 3) := by decide +kernel
theorem dX6_drawChoice_5 : decode cX6_drawChoice 5 = .ok (.invokestatic 71, 3) := by decide +kernel
theorem dX6_drawChoice_8 : decode cX6_drawChoice 8 = .ok (.putfield 9, 3) := by decide +kernel
theorem dX6_drawChoice_11 : decode cX6_drawChoice 11 = .ok (.aload_n 0, 1) := by decide +kernel
theorem dX6_drawChoice_12 : decode cX6_drawChoice 12 = .ok (.getfield 9, 3) := by decide +kernel
theorem dX6_drawChoice_15 : decode cX6_drawChoice 15 = .ok (.iload_n 1, 1) := by decide +kernel
theorem dX6_drawChoice_16 : decode cX6_drawChoice 16 = .ok (.invokestatic 75, 3) := by decide +kernel
theorem dX6_drawChoice_19 : decode cX6_drawChoice 19 = .ok (.ireturn, 1) := by decide +kernel
theorem dX6_drawChance_0 : decode cX6_drawChance 0 = .ok (.aload_n 0, 1) := by decide +kernel
theorem dX6_drawChance_1 : decode cX6_drawChance 1 = .ok (.aload_n 0, 1) := by decide +kernel
theorem dX6_drawChance_2 : decode cX6_drawChance 2 = .ok (.getfield 15, 3) := by decide +kernel
theorem dX6_drawChance_5 : decode cX6_drawChance 5 = .ok (.invokestatic 71, 3) := by decide +kernel
theorem dX6_drawChance_8 : decode cX6_drawChance 8 = .ok (.putfield 15, 3) := by decide +kernel
theorem dX6_drawChance_11 : decode cX6_drawChance 11 = .ok (.aload_n 0, 1) := by decide +kernel
theorem dX6_drawChance_12 : decode cX6_drawChance 12 = .ok (.getfield 15, 3) := by decide +kernel
theorem dX6_drawChance_15 : decode cX6_drawChance 15 = .ok (.iload_n 1, 1) := by decide +kernel
theorem dX6_drawChance_16 : decode cX6_drawChance 16 = .ok (.invokestatic 75, 3) := by decide +kernel
theorem dX6_drawChance_19 : decode cX6_drawChance 19 = .ok (.ireturn, 1) := by decide +kernel
theorem dX6_arrive_0 : decode cX6_arrive 0 = .ok (.aload_n 0, 1) := by decide +kernel
theorem dX6_arrive_1 : decode cX6_arrive 1 = .ok (.getfield 30, 3) := by decide +kernel
theorem dX6_arrive_4 : decode cX6_arrive 4 = .ok (.istore 4, 2) := by decide +kernel
theorem dX6_arrive_6 : decode cX6_arrive 6 = .ok (.iload 4, 2) := by decide +kernel
theorem dX6_arrive_8 : decode cX6_arrive 8 = .ok (.ifCond .lt 10, 3) := by decide +kernel
theorem dX6_arrive_11 : decode cX6_arrive 11 = .ok (.iload 4, 2) := by decide +kernel
theorem dX6_arrive_13 : decode cX6_arrive 13 = .ok (.bipush 24, 2) := by decide +kernel
theorem dX6_arrive_15 : decode cX6_arrive 15 = .ok (.if_icmp .lt 5, 3) := by decide +kernel
theorem dX6_arrive_18 : decode cX6_arrive 18 = .ok (.iconst (-1), 1) := by decide +kernel
theorem dX6_arrive_19 : decode cX6_arrive 19 = .ok (.ireturn, 1) := by decide +kernel
theorem dX6_arrive_20 : decode cX6_arrive 20 = .ok (.aload_n 0, 1) := by decide +kernel
theorem dX6_arrive_21 : decode cX6_arrive 21 = .ok (.dup, 1) := by decide +kernel
theorem dX6_arrive_22 : decode cX6_arrive 22 = .ok (.getfield 30, 3) := by decide +kernel
theorem dX6_arrive_25 : decode cX6_arrive 25 = .ok (.iconst 1, 1) := by decide +kernel
theorem dX6_arrive_26 : decode cX6_arrive 26 = .ok (.iadd, 1) := by decide +kernel
theorem dX6_arrive_27 : decode cX6_arrive 27 = .ok (.putfield 30, 3) := by decide +kernel
theorem dX6_arrive_30 : decode cX6_arrive 30 = .ok (.aload_n 0, 1) := by decide +kernel
theorem dX6_arrive_31 : decode cX6_arrive 31 = .ok (.getfield 33, 3) := by decide +kernel
theorem dX6_arrive_34 : decode cX6_arrive 34 = .ok (.iload 4, 2) := by decide +kernel
theorem dX6_arrive_36 : decode cX6_arrive 36 = .ok (.iload_n 1, 1) := by decide +kernel
theorem dX6_arrive_37 : decode cX6_arrive 37 = .ok (.iastore, 1) := by decide +kernel
theorem dX6_arrive_38 : decode cX6_arrive 38 = .ok (.aload_n 0, 1) := by decide +kernel
theorem dX6_arrive_39 : decode cX6_arrive 39 = .ok (.getfield 37, 3) := by decide +kernel
theorem dX6_arrive_42 : decode cX6_arrive 42 = .ok (.iload 4, 2) := by decide +kernel
theorem dX6_arrive_44 : decode cX6_arrive 44 = .ok (.iload_n 2, 1) := by decide +kernel
theorem dX6_arrive_45 : decode cX6_arrive 45 = .ok (.iastore, 1) := by decide +kernel
theorem dX6_arrive_46 : decode cX6_arrive 46 = .ok (.aload_n 0, 1) := by decide +kernel
theorem dX6_arrive_47 : decode cX6_arrive 47 = .ok (.getfield 40, 3) := by decide +kernel
theorem dX6_arrive_50 : decode cX6_arrive 50 = .ok (.iload 4, 2) := by decide +kernel
theorem dX6_arrive_52 : decode cX6_arrive 52 = .ok (.aload_n 0, 1) := by decide +kernel
theorem dX6_arrive_53 : decode cX6_arrive 53 = .ok (.getfield 18, 3) := by decide +kernel
theorem dX6_arrive_56 : decode cX6_arrive 56 = .ok (.iastore, 1) := by decide +kernel
theorem dX6_arrive_57 : decode cX6_arrive 57 = .ok (.aload_n 0, 1) := by decide +kernel
theorem dX6_arrive_58 : decode cX6_arrive 58 = .ok (.getfield 46, 3) := by decide +kernel
theorem dX6_arrive_61 : decode cX6_arrive 61 = .ok (.iload 4, 2) := by decide +kernel
theorem dX6_arrive_63 : decode cX6_arrive 63 = .ok (.iconst 1, 1) := by decide +kernel
theorem dX6_arrive_64 : decode cX6_arrive 64 = .ok (.iastore, 1) := by decide +kernel
theorem dX6_arrive_65 : decode cX6_arrive 65 = .ok (.iload_n 3, 1) := by decide +kernel
theorem dX6_arrive_66 : decode cX6_arrive 66 = .ok (.ifCond .eq 14, 3) := by decide +kernel
theorem dX6_arrive_69 : decode cX6_arrive 69 = .ok (.aload_n 0, 1) := by decide +kernel
theorem dX6_arrive_70 : decode cX6_arrive 70 = .ok (.getfield 43, 3) := by decide +kernel
theorem dX6_arrive_73 : decode cX6_arrive 73 = .ok (.iload 4, 2) := by decide +kernel
theorem dX6_arrive_75 : decode cX6_arrive 75 = .ok (.iconst 3, 1) := by decide +kernel
theorem dX6_arrive_76 : decode cX6_arrive 76 = .ok (.iastore, 1) := by decide +kernel
theorem dX6_arrive_77 : decode cX6_arrive 77 = .ok (.goto 38, 3) := by decide +kernel
theorem dX6_arrive_80 : decode cX6_arrive 80 = .ok (.iload_n 2, 1) := by decide +kernel
theorem dX6_arrive_81 : decode cX6_arrive 81 = .ok (.bipush 7, 2) := by decide +kernel
theorem dX6_arrive_83 : decode cX6_arrive 83 = .ok (.if_icmp .ge 14, 3) := by decide +kernel
theorem dX6_arrive_86 : decode cX6_arrive 86 = .ok (.aload_n 0, 1) := by decide +kernel
theorem dX6_arrive_87 : decode cX6_arrive 87 = .ok (.getfield 43, 3) := by decide +kernel
theorem dX6_arrive_90 : decode cX6_arrive 90 = .ok (.iload 4, 2) := by decide +kernel
theorem dX6_arrive_92 : decode cX6_arrive 92 = .ok (.iconst 0, 1) := by decide +kernel
theorem dX6_arrive_93 : decode cX6_arrive 93 = .ok (.iastore, 1) := by decide +kernel
theorem dX6_arrive_94 : decode cX6_arrive 94 = .ok (.goto 21, 3) := by decide +kernel
theorem dX6_arrive_97 : decode cX6_arrive 97 = .ok (.aload_n 0, 1) := by decide +kernel
theorem dX6_arrive_98 : decode cX6_arrive 98 = .ok (.getfield 43, 3) := by decide +kernel
theorem dX6_arrive_101 : decode cX6_arrive 101 = .ok (.iload 4, 2) := by decide +kernel
theorem dX6_arrive_103 : decode cX6_arrive 103 = .ok (.iload_n 2, 1) := by decide +kernel
theorem dX6_arrive_104 : decode cX6_arrive 104 = .ok (.bipush 12, 2) := by decide +kernel
theorem dX6_arrive_106 : decode cX6_arrive 106 = .ok (.if_icmp .lt 7, 3) := by decide +kernel
theorem dX6_arrive_109 : decode cX6_arrive 109 = .ok (.iconst 2, 1) := by decide +kernel
theorem dX6_arrive_110 : decode cX6_arrive 110 = .ok (.goto 4, 3) := by decide +kernel
theorem dX6_arrive_113 : decode cX6_arrive 113 = .ok (.iconst 1, 1) := by decide +kernel
theorem dX6_arrive_114 : decode cX6_arrive 114 = .ok (.iastore, 1) := by decide +kernel
theorem dX6_arrive_115 : decode cX6_arrive 115 = .ok (.aload_n 0, 1) := by decide +kernel
theorem dX6_arrive_116 : decode cX6_arrive 116 = .ok (.iload 4, 2) := by decide +kernel
theorem dX6_arrive_118 : decode cX6_arrive 118 = .ok (.invokevirtual 79, 3) := by decide +kernel
theorem dX6_arrive_121 : decode cX6_arrive 121 = .ok (.iload 4, 2) := by decide +kernel
theorem dX6_arrive_123 : decode cX6_arrive 123 = .ok (.ireturn, 1) := by decide +kernel
theorem dX6_giveFirstWeights_0 : decode cX6_giveFirstWeights 0 = .ok (.iconst 0, 1) := by decide +kernel
theorem dX6_giveFirstWeights_1 : decode cX6_giveFirstWeights 1 = .ok (.istore_n 2, 1) := by decide +kernel
theorem dX6_giveFirstWeights_2 : decode cX6_giveFirstWeights 2 = .ok (.iload_n 2, 1) := by decide +kernel
theorem dX6_giveFirstWeights_3 : decode cX6_giveFirstWeights 3 = .ok (.bipush 8, 2) := by decide +kernel
theorem dX6_giveFirstWeights_5 : decode cX6_giveFirstWeights 5 = .ok (.if_icmp .ge 58, 3) := by decide +kernel
theorem dX6_giveFirstWeights_8 : decode cX6_giveFirstWeights 8 = .ok (.aload_n 0, 1) := by decide +kernel
theorem dX6_giveFirstWeights_9 : decode cX6_giveFirstWeights 9 = .ok (.getfield 43, 3) := by decide +kernel
theorem dX6_giveFirstWeights_12 : decode cX6_giveFirstWeights 12 = .ok (.iload_n 1, 1) := by decide +kernel
theorem dX6_giveFirstWeights_13 : decode cX6_giveFirstWeights 13 = .ok (.iaload, 1) := by decide +kernel
theorem dX6_giveFirstWeights_14 : decode cX6_giveFirstWeights 14 = .ok (.iconst 3, 1) := by decide +kernel
theorem dX6_giveFirstWeights_15 : decode cX6_giveFirstWeights 15 = .ok (.if_icmp .ne 20, 3) := by decide +kernel
theorem dX6_giveFirstWeights_18 : decode cX6_giveFirstWeights 18 = .ok (.aload_n 0, 1) := by decide +kernel
theorem dX6_giveFirstWeights_19 : decode cX6_giveFirstWeights 19 = .ok (.getfield 55, 3) := by decide +kernel
theorem dX6_giveFirstWeights_22 : decode cX6_giveFirstWeights 22 = .ok (.iload_n 1, 1) := by decide +kernel
theorem dX6_giveFirstWeights_23 : decode cX6_giveFirstWeights 23 = .ok (.iload_n 2, 1) := by decide +kernel
theorem dX6_giveFirstWeights_24 : decode cX6_giveFirstWeights 24 = .ok (.iload_n 2, 1) := by decide +kernel
theorem dX6_giveFirstWeights_25 : decode cX6_giveFirstWeights 25 = .ok (.invokestatic 83, 3) := by decide +kernel
theorem dX6_giveFirstWeights_28 : decode cX6_giveFirstWeights 28 = .ok (.sipush 500, 3) := by decide +kernel
theorem dX6_giveFirstWeights_31 : decode cX6_giveFirstWeights 31 = .ok (.iastore, 1) := by decide +kernel
theorem dX6_giveFirstWeights_32 : decode cX6_giveFirstWeights 32 = .ok (.goto 25, 3) := by decide +kernel
theorem dX6_giveFirstWeights_35 : decode cX6_giveFirstWeights 35 = .ok (.aload_n 0, 1) := by decide +kernel
theorem dX6_giveFirstWeights_36 : decode cX6_giveFirstWeights 36 = .ok (.getfield 55, 3) := by decide +kernel
theorem dX6_giveFirstWeights_39 : decode cX6_giveFirstWeights 39 = .ok (.iload_n 1, 1) := by decide +kernel
theorem dX6_giveFirstWeights_40 : decode cX6_giveFirstWeights 40 = .ok (.iload_n 2, 1) := by decide +kernel
theorem dX6_giveFirstWeights_41 : decode cX6_giveFirstWeights 41 = .ok (.iconst 5, 1) := by decide +kernel
theorem dX6_giveFirstWeights_42 : decode cX6_giveFirstWeights 42 = .ok (.iload_n 1, 1) := by decide +kernel
theorem dX6_giveFirstWeights_43 : decode cX6_giveFirstWeights 43 = .ok (.imul, 1) := by decide +kernel
theorem dX6_giveFirstWeights_44 : decode cX6_giveFirstWeights 44 = .ok (.iconst 3, 1) := by decide +kernel
theorem dX6_giveFirstWeights_45 : decode cX6_giveFirstWeights 45 = .ok (.iload_n 2, 1) := by decide +kernel
theorem dX6_giveFirstWeights_46 : decode cX6_giveFirstWeights 46 = .ok (.imul, 1) := by decide +kernel
theorem dX6_giveFirstWeights_47 : decode cX6_giveFirstWeights 47 = .ok (.iadd, 1) := by decide +kernel
theorem dX6_giveFirstWeights_48 : decode cX6_giveFirstWeights 48 = .ok (.bipush 16, 2) := by decide +kernel
theorem dX6_giveFirstWeights_50 : decode cX6_giveFirstWeights 50 = .ok (.irem, 1) := by decide +kernel
theorem dX6_giveFirstWeights_51 : decode cX6_giveFirstWeights 51 = .ok (.invokestatic 83, 3) := by decide +kernel
theorem dX6_giveFirstWeights_54 : decode cX6_giveFirstWeights 54 = .ok (.bipush 10, 2) := by decide +kernel
theorem dX6_giveFirstWeights_56 : decode cX6_giveFirstWeights 56 = .ok (.iastore, 1) := by decide +kernel
theorem dX6_giveFirstWeights_57 : decode cX6_giveFirstWeights 57 = .ok (.iinc 2 1, 3) := by decide +kernel
theorem dX6_giveFirstWeights_60 : decode cX6_giveFirstWeights 60 = .ok (.goto (-58), 3) := by decide +kernel
theorem dX6_giveFirstWeights_63 : decode cX6_giveFirstWeights 63 = .ok (.aload_n 0, 1) := by decide +kernel
theorem dX6_giveFirstWeights_64 : decode cX6_giveFirstWeights 64 = .ok (.getfield 43, 3) := by decide +kernel
theorem dX6_giveFirstWeights_67 : decode cX6_giveFirstWeights 67 = .ok (.iload_n 1, 1) := by decide +kernel
theorem dX6_giveFirstWeights_68 : decode cX6_giveFirstWeights 68 = .ok (.iaload, 1) := by decide +kernel
theorem dX6_giveFirstWeights_69 : decode cX6_giveFirstWeights 69 = .ok (.iconst 3, 1) := by decide +kernel
theorem dX6_giveFirstWeights_70 : decode cX6_giveFirstWeights 70 = .ok (.if_icmp .ne 15, 3) := by decide +kernel
theorem dX6_giveFirstWeights_73 : decode cX6_giveFirstWeights 73 = .ok (.aload_n 0, 1) := by decide +kernel
theorem dX6_giveFirstWeights_74 : decode cX6_giveFirstWeights 74 = .ok (.getfield 58, 3) := by decide +kernel
theorem dX6_giveFirstWeights_77 : decode cX6_giveFirstWeights 77 = .ok (.iload_n 1, 1) := by decide +kernel
theorem dX6_giveFirstWeights_78 : decode cX6_giveFirstWeights 78 = .ok (.bipush 6, 2) := by decide +kernel
theorem dX6_giveFirstWeights_80 : decode cX6_giveFirstWeights 80 = .ok (.imul, 1) := by decide +kernel
theorem dX6_giveFirstWeights_81 : decode cX6_giveFirstWeights 81 = .ok (.sipush 500, 3) := by decide +kernel
theorem dX6_giveFirstWeights_84 : decode cX6_giveFirstWeights 84 = .ok (.iastore, 1) := by decide +kernel
theorem dX6_giveFirstWeights_85 : decode cX6_giveFirstWeights 85 = .ok (.return_, 1) := by decide +kernel
theorem dX6_yearsHere_0 : decode cX6_yearsHere 0 = .ok (.aload_n 0, 1) := by decide +kernel
theorem dX6_yearsHere_1 : decode cX6_yearsHere 1 = .ok (.getfield 18, 3) := by decide +kernel
theorem dX6_yearsHere_4 : decode cX6_yearsHere 4 = .ok (.aload_n 0, 1) := by decide +kernel
theorem dX6_yearsHere_5 : decode cX6_yearsHere 5 = .ok (.getfield 40, 3) := by decide +kernel
theorem dX6_yearsHere_8 : decode cX6_yearsHere 8 = .ok (.iload_n 1, 1) := by decide +kernel
theorem dX6_yearsHere_9 : decode cX6_yearsHere 9 = .ok (.iaload, 1) := by decide +kernel
theorem dX6_yearsHere_10 : decode cX6_yearsHere 10 = .ok (.isub, 1) := by decide +kernel
theorem dX6_yearsHere_11 : decode cX6_yearsHere 11 = .ok (.ireturn, 1) := by decide +kernel
theorem dX6_ageNow_0 : decode cX6_ageNow 0 = .ok (.aload_n 0, 1) := by decide +kernel
theorem dX6_ageNow_1 : decode cX6_ageNow 1 = .ok (.getfield 37, 3) := by decide +kernel
theorem dX6_ageNow_4 : decode cX6_ageNow 4 = .ok (.iload_n 1, 1) := by decide +kernel
theorem dX6_ageNow_5 : decode cX6_ageNow 5 = .ok (.iaload, 1) := by decide +kernel
theorem dX6_ageNow_6 : decode cX6_ageNow 6 = .ok (.aload_n 0, 1) := by decide +kernel
theorem dX6_ageNow_7 : decode cX6_ageNow 7 = .ok (.iload_n 1, 1) := by decide +kernel
theorem dX6_ageNow_8 : decode cX6_ageNow 8 = .ok (.invokevirtual 87, 3) := by decide +kernel
theorem dX6_ageNow_11 : decode cX6_ageNow 11 = .ok (.iadd, 1) := by decide +kernel
theorem dX6_ageNow_12 : decode cX6_ageNow 12 = .ok (.ireturn, 1) := by decide +kernel
theorem dX6_isThere_0 : decode cX6_isThere 0 = .ok (.aload_n 0, 1) := by decide +kernel
theorem dX6_isThere_1 : decode cX6_isThere 1 = .ok (.getfield 46, 3) := by decide +kernel
theorem dX6_isThere_4 : decode cX6_isThere 4 = .ok (.iload_n 1, 1) := by decide +kernel
theorem dX6_isThere_5 : decode cX6_isThere 5 = .ok (.iaload, 1) := by decide +kernel
theorem dX6_isThere_6 : decode cX6_isThere 6 = .ok (.iconst 1, 1) := by decide +kernel
theorem dX6_isThere_7 : decode cX6_isThere 7 = .ok (.if_icmp .ne 17, 3) := by decide +kernel
theorem dX6_isThere_10 : decode cX6_isThere 10 = .ok (.aload_n 0, 1) := by decide +kernel
theorem dX6_isThere_11 : decode cX6_isThere 11 = .ok (.getfield 33, 3) := by decide +kernel
theorem dX6_isThere_14 : decode cX6_isThere 14 = .ok (.iload_n 1, 1) := by decide +kernel
theorem dX6_isThere_15 : decode cX6_isThere 15 = .ok (.iaload, 1) := by decide +kernel
theorem dX6_isThere_16 : decode cX6_isThere 16 = .ok (.iload_n 2, 1) := by decide +kernel
theorem dX6_isThere_17 : decode cX6_isThere 17 = .ok (.if_icmp .ne 7, 3) := by decide +kernel
theorem dX6_isThere_20 : decode cX6_isThere 20 = .ok (.iconst 1, 1) := by decide +kernel
theorem dX6_isThere_21 : decode cX6_isThere 21 = .ok (.goto 4, 3) := by decide +kernel
theorem dX6_isThere_24 : decode cX6_isThere 24 = .ok (.iconst 0, 1) := by decide +kernel
theorem dX6_isThere_25 : decode cX6_isThere 25 = .ok (.ireturn, 1) := by decide +kernel
theorem dX6_areTogether_0 : decode cX6_areTogether 0 = .ok (.aload_n 0, 1) := by decide +kernel
theorem dX6_areTogether_1 : decode cX6_areTogether 1 = .ok (.getfield 46, 3) := by decide +kernel
theorem dX6_areTogether_4 : decode cX6_areTogether 4 = .ok (.iload_n 1, 1) := by decide +kernel
theorem dX6_areTogether_5 : decode cX6_areTogether 5 = .ok (.iaload, 1) := by decide +kernel
theorem dX6_areTogether_6 : decode cX6_areTogether 6 = .ok (.iconst 1, 1) := by decide +kernel
theorem dX6_areTogether_7 : decode cX6_areTogether 7 = .ok (.if_icmp .ne 32, 3) := by decide +kernel
theorem dX6_areTogether_10 : decode cX6_areTogether 10 = .ok (.aload_n 0, 1) := by decide +kernel
theorem dX6_areTogether_11 : decode cX6_areTogether 11 = .ok (.getfield 46, 3) := by decide +kernel
theorem dX6_areTogether_14 : decode cX6_areTogether 14 = .ok (.iload_n 2, 1) := by decide +kernel
theorem dX6_areTogether_15 : decode cX6_areTogether 15 = .ok (.iaload, 1) := by decide +kernel
theorem dX6_areTogether_16 : decode cX6_areTogether 16 = .ok (.iconst 1, 1) := by decide +kernel
theorem dX6_areTogether_17 : decode cX6_areTogether 17 = .ok (.if_icmp .ne 22, 3) := by decide +kernel
theorem dX6_areTogether_20 : decode cX6_areTogether 20 = .ok (.aload_n 0, 1) := by decide +kernel
theorem dX6_areTogether_21 : decode cX6_areTogether 21 = .ok (.getfield 33, 3) := by decide +kernel
theorem dX6_areTogether_24 : decode cX6_areTogether 24 = .ok (.iload_n 1, 1) := by decide +kernel
theorem dX6_areTogether_25 : decode cX6_areTogether 25 = .ok (.iaload, 1) := by decide +kernel
theorem dX6_areTogether_26 : decode cX6_areTogether 26 = .ok (.aload_n 0, 1) := by decide +kernel
theorem dX6_areTogether_27 : decode cX6_areTogether 27 = .ok (.getfield 33, 3) := by decide +kernel
theorem dX6_areTogether_30 : decode cX6_areTogether 30 = .ok (.iload_n 2, 1) := by decide +kernel
theorem dX6_areTogether_31 : decode cX6_areTogether 31 = .ok (.iaload, 1) := by decide +kernel
theorem dX6_areTogether_32 : decode cX6_areTogether 32 = .ok (.if_icmp .ne 7, 3) := by decide +kernel
theorem dX6_areTogether_35 : decode cX6_areTogether 35 = .ok (.iconst 1, 1) := by decide +kernel
theorem dX6_areTogether_36 : decode cX6_areTogether 36 = .ok (.goto 4, 3) := by decide +kernel
theorem dX6_areTogether_39 : decode cX6_areTogether 39 = .ok (.iconst 0, 1) := by decide +kernel
theorem dX6_areTogether_40 : decode cX6_areTogether 40 = .ok (.ireturn, 1) := by decide +kernel
theorem dX6_gather_0 : decode cX6_gather 0 = .ok (.iconst 0, 1) := by decide +kernel
theorem dX6_gather_1 : decode cX6_gather 1 = .ok (.istore_n 3, 1) := by decide +kernel
theorem dX6_gather_2 : decode cX6_gather 2 = .ok (.iconst 0, 1) := by decide +kernel
theorem dX6_gather_3 : decode cX6_gather 3 = .ok (.istore 4, 2) := by decide +kernel
theorem dX6_gather_5 : decode cX6_gather 5 = .ok (.iload 4, 2) := by decide +kernel
theorem dX6_gather_7 : decode cX6_gather 7 = .ok (.aload_n 0, 1) := by decide +kernel
theorem dX6_gather_8 : decode cX6_gather 8 = .ok (.getfield 30, 3) := by decide +kernel
theorem dX6_gather_11 : decode cX6_gather 11 = .ok (.if_icmp .ge 33, 3) := by decide +kernel
theorem dX6_gather_14 : decode cX6_gather 14 = .ok (.iload_n 3, 1) := by decide +kernel
theorem dX6_gather_15 : decode cX6_gather 15 = .ok (.aload_n 2, 1) := by decide +kernel
theorem dX6_gather_16 : decode cX6_gather 16 = .ok (.arraylength, 1) := by decide +kernel
theorem dX6_gather_17 : decode cX6_gather 17 = .ok (.if_icmp .ge 27, 3) := by decide +kernel
theorem dX6_gather_20 : decode cX6_gather 20 = .ok (.aload_n 0, 1) := by decide +kernel
theorem dX6_gather_21 : decode cX6_gather 21 = .ok (.iload 4, 2) := by decide +kernel
theorem dX6_gather_23 : decode cX6_gather 23 = .ok (.iload_n 1, 1) := by decide +kernel
theorem dX6_gather_24 : decode cX6_gather 24 = .ok (.invokevirtual 90, 3) := by decide +kernel
theorem dX6_gather_27 : decode cX6_gather 27 = .ok (.ifCond .eq 11, 3) := by decide +kernel
theorem dX6_gather_30 : decode cX6_gather 30 = .ok (.aload_n 2, 1) := by decide +kernel
theorem dX6_gather_31 : decode cX6_gather 31 = .ok (.iload_n 3, 1) := by decide +kernel
theorem dX6_gather_32 : decode cX6_gather 32 = .ok (.iload 4, 2) := by decide +kernel
theorem dX6_gather_34 : decode cX6_gather 34 = .ok (.iastore, 1) := by decide +kernel
theorem dX6_gather_35 : decode cX6_gather 35 = .ok (.iinc 3 1, 3) := by decide +kernel
theorem dX6_gather_38 : decode cX6_gather 38 = .ok (.iinc 4 1, 3) := by decide +kernel
theorem dX6_gather_41 : decode cX6_gather 41 = .ok (.goto (-36), 3) := by decide +kernel
theorem dX6_gather_44 : decode cX6_gather 44 = .ok (.iload_n 3, 1) := by decide +kernel
theorem dX6_gather_45 : decode cX6_gather 45 = .ok (.ireturn, 1) := by decide +kernel
theorem dX6_countThere_0 : decode cX6_countThere 0 = .ok (.iconst 0, 1) := by decide +kernel
theorem dX6_countThere_1 : decode cX6_countThere 1 = .ok (.istore_n 2, 1) := by decide +kernel
theorem dX6_countThere_2 : decode cX6_countThere 2 = .ok (.iconst 0, 1) := by decide +kernel
theorem dX6_countThere_3 : decode cX6_countThere 3 = .ok (.istore_n 3, 1) := by decide +kernel
theorem dX6_countThere_4 : decode cX6_countThere 4 = .ok (.iload_n 3, 1) := by decide +kernel
theorem dX6_countThere_5 : decode cX6_countThere 5 = .ok (.aload_n 0, 1) := by decide +kernel
theorem dX6_countThere_6 : decode cX6_countThere 6 = .ok (.getfield 30, 3) := by decide +kernel
theorem dX6_countThere_9 : decode cX6_countThere 9 = .ok (.if_icmp .ge 21, 3) := by decide +kernel
theorem dX6_countThere_12 : decode cX6_countThere 12 = .ok (.aload_n 0, 1) := by decide +kernel
theorem dX6_countThere_13 : decode cX6_countThere 13 = .ok (.iload_n 3, 1) := by decide +kernel
theorem dX6_countThere_14 : decode cX6_countThere 14 = .ok (.iload_n 1, 1) := by decide +kernel
theorem dX6_countThere_15 : decode cX6_countThere 15 = .ok (.invokevirtual 90, 3) := by decide +kernel
theorem dX6_countThere_18 : decode cX6_countThere 18 = .ok (.ifCond .eq 6, 3) := by decide +kernel
theorem dX6_countThere_21 : decode cX6_countThere 21 = .ok (.iinc 2 1, 3) := by decide +kernel
theorem dX6_countThere_24 : decode cX6_countThere 24 = .ok (.iinc 3 1, 3) := by decide +kernel
theorem dX6_countThere_27 : decode cX6_countThere 27 = .ok (.goto (-23), 3) := by decide +kernel
theorem dX6_countThere_30 : decode cX6_countThere 30 = .ok (.iload_n 2, 1) := by decide +kernel
theorem dX6_countThere_31 : decode cX6_countThere 31 = .ok (.ireturn, 1) := by decide +kernel
theorem dX6_keepFirst_0 : decode cX6_keepFirst 0 = .ok (.iconst 0, 1) := by decide +kernel
theorem dX6_keepFirst_1 : decode cX6_keepFirst 1 = .ok (.istore_n 3, 1) := by decide +kernel
theorem dX6_keepFirst_2 : decode cX6_keepFirst 2 = .ok (.iconst 0, 1) := by decide +kernel
theorem dX6_keepFirst_3 : decode cX6_keepFirst 3 = .ok (.istore 4, 2) := by decide +kernel
theorem dX6_keepFirst_5 : decode cX6_keepFirst 5 = .ok (.iload 4, 2) := by decide +kernel
theorem dX6_keepFirst_7 : decode cX6_keepFirst 7 = .ok (.aload_n 0, 1) := by decide +kernel
theorem dX6_keepFirst_8 : decode cX6_keepFirst 8 = .ok (.getfield 30, 3) := by decide +kernel
theorem dX6_keepFirst_11 : decode cX6_keepFirst 11 = .ok (.if_icmp .ge 38, 3) := by decide +kernel
theorem dX6_keepFirst_14 : decode cX6_keepFirst 14 = .ok (.aload_n 0, 1) := by decide +kernel
theorem dX6_keepFirst_15 : decode cX6_keepFirst 15 = .ok (.iload 4, 2) := by decide +kernel
theorem dX6_keepFirst_17 : decode cX6_keepFirst 17 = .ok (.iload_n 1, 1) := by decide +kernel
theorem dX6_keepFirst_18 : decode cX6_keepFirst 18 = .ok (.invokevirtual 90, 3) := by decide +kernel
theorem dX6_keepFirst_21 : decode cX6_keepFirst 21 = .ok (.ifCond .eq 14, 3) := by decide +kernel
theorem dX6_keepFirst_24 : decode cX6_keepFirst 24 = .ok (.iload_n 3, 1) := by decide +kernel
theorem dX6_keepFirst_25 : decode cX6_keepFirst 25 = .ok (.iload_n 2, 1) := by decide +kernel
theorem dX6_keepFirst_26 : decode cX6_keepFirst 26 = .ok (.if_icmp .ge 9, 3) := by decide +kernel
theorem dX6_keepFirst_29 : decode cX6_keepFirst 29 = .ok (.iinc 3 1, 3) := by decide +kernel
theorem dX6_keepFirst_32 : decode cX6_keepFirst 32 = .ok (.goto 11, 3) := by decide +kernel
theorem dX6_keepFirst_35 : decode cX6_keepFirst 35 = .ok (.aload_n 0, 1) := by decide +kernel
theorem dX6_keepFirst_36 : decode cX6_keepFirst 36 = .ok (.getfield 46, 3) := by decide +kernel
theorem dX6_keepFirst_39 : decode cX6_keepFirst 39 = .ok (.iload 4, 2) := by decide +kernel
theorem dX6_keepFirst_41 : decode cX6_keepFirst 41 = .ok (.iconst 0, 1) := by decide +kernel
theorem dX6_keepFirst_42 : decode cX6_keepFirst 42 = .ok (.iastore, 1) := by decide +kernel
theorem dX6_keepFirst_43 : decode cX6_keepFirst 43 = .ok (.iinc 4 1, 3) := by decide +kernel
theorem dX6_keepFirst_46 : decode cX6_keepFirst 46 = .ok (.goto (-41), 3) := by decide +kernel
theorem dX6_keepFirst_49 : decode cX6_keepFirst 49 = .ok (.return_, 1) := by decide +kernel
theorem dX6_sendTeachersAway_0 : decode cX6_sendTeachersAway 0 = .ok (.iconst 0, 1) := by decide +kernel
theorem dX6_sendTeachersAway_1 : decode cX6_sendTeachersAway 1 = .ok (.istore_n 2, 1) := by decide +kernel
theorem dX6_sendTeachersAway_2 : decode cX6_sendTeachersAway 2 = .ok (.iload_n 2, 1) := by decide +kernel
theorem dX6_sendTeachersAway_3 : decode cX6_sendTeachersAway 3 = .ok (.aload_n 0, 1) := by decide +kernel
theorem dX6_sendTeachersAway_4 : decode cX6_sendTeachersAway 4 = .ok (.getfield 30, 3) := by decide +kernel
theorem dX6_sendTeachersAway_7 : decode cX6_sendTeachersAway 7 = .ok (.if_icmp .ge 35, 3) := by decide +kernel
theorem dX6_sendTeachersAway_10 : decode cX6_sendTeachersAway 10 = .ok (.aload_n 0, 1) := by decide +kernel
theorem dX6_sendTeachersAway_11 : decode cX6_sendTeachersAway 11 = .ok (.iload_n 2, 1) := by decide +kernel
theorem dX6_sendTeachersAway_12 : decode cX6_sendTeachersAway 12 = .ok (.iload_n 1, 1) := by decide +kernel
theorem dX6_sendTeachersAway_13 : decode cX6_sendTeachersAway 13 = .ok (.invokevirtual 90, 3) := by decide +kernel
theorem dX6_sendTeachersAway_16 : decode cX6_sendTeachersAway 16 = .ok (.ifCond .eq 20, 3) := by decide +kernel
theorem dX6_sendTeachersAway_19 : decode cX6_sendTeachersAway 19 = .ok (.aload_n 0, 1) := by decide +kernel
theorem dX6_sendTeachersAway_20 : decode cX6_sendTeachersAway 20 = .ok (.getfield 43, 3) := by decide +kernel
theorem dX6_sendTeachersAway_23 : decode cX6_sendTeachersAway 23 = .ok (.iload_n 2, 1) := by decide +kernel
theorem dX6_sendTeachersAway_24 : decode cX6_sendTeachersAway 24 = .ok (.iaload, 1) := by decide +kernel
theorem dX6_sendTeachersAway_25 : decode cX6_sendTeachersAway 25 = .ok (.iconst 3, 1) := by decide +kernel
theorem dX6_sendTeachersAway_26 : decode cX6_sendTeachersAway 26 = .ok (.if_icmp .ne 10, 3) := by decide +kernel
theorem dX6_sendTeachersAway_29 : decode cX6_sendTeachersAway 29 = .ok (.aload_n 0, 1) := by decide +kernel
theorem dX6_sendTeachersAway_30 : decode cX6_sendTeachersAway 30 = .ok (.getfield 46, 3) := by decide +kernel
theorem dX6_sendTeachersAway_33 : decode cX6_sendTeachersAway 33 = .ok (.iload_n 2, 1) := by decide +kernel
theorem dX6_sendTeachersAway_34 : decode cX6_sendTeachersAway 34 = .ok (.iconst 0, 1) := by decide +kernel
theorem dX6_sendTeachersAway_35 : decode cX6_sendTeachersAway 35 = .ok (.iastore, 1) := by decide +kernel
theorem dX6_sendTeachersAway_36 : decode cX6_sendTeachersAway 36 = .ok (.iinc 2 1, 3) := by decide +kernel
theorem dX6_sendTeachersAway_39 : decode cX6_sendTeachersAway 39 = .ok (.goto (-37), 3) := by decide +kernel
theorem dX6_sendTeachersAway_42 : decode cX6_sendTeachersAway 42 = .ok (.return_, 1) := by decide +kernel
theorem dX6_heaviestSign_0 : decode cX6_heaviestSign 0 = .ok (.iconst (-1), 1) := by decide +kernel
theorem dX6_heaviestSign_1 : decode cX6_heaviestSign 1 = .ok (.istore_n 3, 1) := by decide +kernel
theorem dX6_heaviestSign_2 : decode cX6_heaviestSign 2 = .ok (.iconst 0, 1) := by decide +kernel
theorem dX6_heaviestSign_3 : decode cX6_heaviestSign 3 = .ok (.istore 4, 2) := by decide +kernel
theorem dX6_heaviestSign_5 : decode cX6_heaviestSign 5 = .ok (.iconst 0, 1) := by decide +kernel
theorem dX6_heaviestSign_6 : decode cX6_heaviestSign 6 = .ok (.istore 5, 2) := by decide +kernel
theorem dX6_heaviestSign_8 : decode cX6_heaviestSign 8 = .ok (.iload 5, 2) := by decide +kernel
theorem dX6_heaviestSign_10 : decode cX6_heaviestSign 10 = .ok (.bipush 16, 2) := by decide +kernel
theorem dX6_heaviestSign_12 : decode cX6_heaviestSign 12 = .ok (.if_icmp .ge 37, 3) := by decide +kernel
theorem dX6_heaviestSign_15 : decode cX6_heaviestSign 15 = .ok (.aload_n 0, 1) := by decide +kernel
theorem dX6_heaviestSign_16 : decode cX6_heaviestSign 16 = .ok (.getfield 55, 3) := by decide +kernel
theorem dX6_heaviestSign_19 : decode cX6_heaviestSign 19 = .ok (.iload_n 1, 1) := by decide +kernel
theorem dX6_heaviestSign_20 : decode cX6_heaviestSign 20 = .ok (.iload_n 2, 1) := by decide +kernel
theorem dX6_heaviestSign_21 : decode cX6_heaviestSign 21 = .ok (.iload 5, 2) := by decide +kernel
theorem dX6_heaviestSign_23 : decode cX6_heaviestSign 23 = .ok (.invokestatic 83, 3) := by decide +kernel
theorem dX6_heaviestSign_26 : decode cX6_heaviestSign 26 = .ok (.iaload, 1) := by decide +kernel
theorem dX6_heaviestSign_27 : decode cX6_heaviestSign 27 = .ok (.istore 6, 2) := by decide +kernel
theorem dX6_heaviestSign_29 : decode cX6_heaviestSign 29 = .ok (.iload 6, 2) := by decide +kernel
theorem dX6_heaviestSign_31 : decode cX6_heaviestSign 31 = .ok (.iload 4, 2) := by decide +kernel
theorem dX6_heaviestSign_33 : decode cX6_heaviestSign 33 = .ok (.if_icmp .le 10, 3) := by decide +kernel
theorem dX6_heaviestSign_36 : decode cX6_heaviestSign 36 = .ok (.iload 6, 2) := by decide +kernel
theorem dX6_heaviestSign_38 : decode cX6_heaviestSign 38 = .ok (.istore 4, 2) := by decide +kernel
theorem dX6_heaviestSign_40 : decode cX6_heaviestSign 40 = .ok (.iload 5, 2) := by decide +kernel
theorem dX6_heaviestSign_42 : decode cX6_heaviestSign 42 = .ok (.istore_n 3, 1) := by decide +kernel
theorem dX6_heaviestSign_43 : decode cX6_heaviestSign 43 = .ok (.iinc 5 1, 3) := by decide +kernel
theorem dX6_heaviestSign_46 : decode cX6_heaviestSign 46 = .ok (.goto (-38), 3) := by decide +kernel
theorem dX6_heaviestSign_49 : decode cX6_heaviestSign 49 = .ok (.iload_n 3, 1) := by decide +kernel
theorem dX6_heaviestSign_50 : decode cX6_heaviestSign 50 = .ok (.ireturn, 1) := by decide +kernel
theorem dX6_heaviestOrder_0 : decode cX6_heaviestOrder 0 = .ok (.iconst (-1), 1) := by decide +kernel
theorem dX6_heaviestOrder_1 : decode cX6_heaviestOrder 1 = .ok (.istore_n 2, 1) := by decide +kernel
theorem dX6_heaviestOrder_2 : decode cX6_heaviestOrder 2 = .ok (.iconst 0, 1) := by decide +kernel
theorem dX6_heaviestOrder_3 : decode cX6_heaviestOrder 3 = .ok (.istore_n 3, 1) := by decide +kernel
theorem dX6_heaviestOrder_4 : decode cX6_heaviestOrder 4 = .ok (.iconst 0, 1) := by decide +kernel
theorem dX6_heaviestOrder_5 : decode cX6_heaviestOrder 5 = .ok (.istore 4, 2) := by decide +kernel
theorem dX6_heaviestOrder_7 : decode cX6_heaviestOrder 7 = .ok (.iload 4, 2) := by decide +kernel
theorem dX6_heaviestOrder_9 : decode cX6_heaviestOrder 9 = .ok (.bipush 6, 2) := by decide +kernel
theorem dX6_heaviestOrder_11 : decode cX6_heaviestOrder 11 = .ok (.if_icmp .ge 35, 3) := by decide +kernel
theorem dX6_heaviestOrder_14 : decode cX6_heaviestOrder 14 = .ok (.aload_n 0, 1) := by decide +kernel
theorem dX6_heaviestOrder_15 : decode cX6_heaviestOrder 15 = .ok (.getfield 58, 3) := by decide +kernel
theorem dX6_heaviestOrder_18 : decode cX6_heaviestOrder 18 = .ok (.iload_n 1, 1) := by decide +kernel
theorem dX6_heaviestOrder_19 : decode cX6_heaviestOrder 19 = .ok (.bipush 6, 2) := by decide +kernel
theorem dX6_heaviestOrder_21 : decode cX6_heaviestOrder 21 = .ok (.imul, 1) := by decide +kernel
theorem dX6_heaviestOrder_22 : decode cX6_heaviestOrder 22 = .ok (.iload 4, 2) := by decide +kernel
theorem dX6_heaviestOrder_24 : decode cX6_heaviestOrder 24 = .ok (.iadd, 1) := by decide +kernel
theorem dX6_heaviestOrder_25 : decode cX6_heaviestOrder 25 = .ok (.iaload, 1) := by decide +kernel
theorem dX6_heaviestOrder_26 : decode cX6_heaviestOrder 26 = .ok (.istore 5, 2) := by decide +kernel
theorem dX6_heaviestOrder_28 : decode cX6_heaviestOrder 28 = .ok (.iload 5, 2) := by decide +kernel
theorem dX6_heaviestOrder_30 : decode cX6_heaviestOrder 30 = .ok (.iload_n 3, 1) := by decide +kernel
theorem dX6_heaviestOrder_31 : decode cX6_heaviestOrder 31 = .ok (.if_icmp .le 9, 3) := by decide +kernel
theorem dX6_heaviestOrder_34 : decode cX6_heaviestOrder 34 = .ok (.iload 5, 2) := by decide +kernel
theorem dX6_heaviestOrder_36 : decode cX6_heaviestOrder 36 = .ok (.istore_n 3, 1) := by decide +kernel
theorem dX6_heaviestOrder_37 : decode cX6_heaviestOrder 37 = .ok (.iload 4, 2) := by decide +kernel
theorem dX6_heaviestOrder_39 : decode cX6_heaviestOrder 39 = .ok (.istore_n 2, 1) := by decide +kernel
theorem dX6_heaviestOrder_40 : decode cX6_heaviestOrder 40 = .ok (.iinc 4 1, 3) := by decide +kernel
theorem dX6_heaviestOrder_43 : decode cX6_heaviestOrder 43 = .ok (.goto (-36), 3) := by decide +kernel
theorem dX6_heaviestOrder_46 : decode cX6_heaviestOrder 46 = .ok (.iload_n 2, 1) := by decide +kernel
theorem dX6_heaviestOrder_47 : decode cX6_heaviestOrder 47 = .ok (.ireturn, 1) := by decide +kernel
theorem dX6_chooseSign_0 : decode cX6_chooseSign 0 = .ok (.aload_n 0, 1) := by decide +kernel
theorem dX6_chooseSign_1 : decode cX6_chooseSign 1 = .ok (.iload_n 1, 1) := by decide +kernel
theorem dX6_chooseSign_2 : decode cX6_chooseSign 2 = .ok (.iload_n 2, 1) := by decide +kernel
theorem dX6_chooseSign_3 : decode cX6_chooseSign 3 = .ok (.invokevirtual 94, 3) := by decide +kernel
theorem dX6_chooseSign_6 : decode cX6_chooseSign 6 = .ok (.istore_n 3, 1) := by decide +kernel
theorem dX6_chooseSign_7 : decode cX6_chooseSign 7 = .ok (.iload_n 3, 1) := by decide +kernel
theorem dX6_chooseSign_8 : decode cX6_chooseSign 8 = .ok (.iconst (-1), 1) := by decide +kernel
theorem dX6_chooseSign_9 : decode cX6_chooseSign 9 = .ok (.if_icmp .ne 12, 3) := by decide +kernel
theorem dX6_chooseSign_12 : decode cX6_chooseSign 12 = .ok (.aload_n 0, 1) := by decide +kernel
theorem dX6_chooseSign_13 : decode cX6_chooseSign 13 = .ok (.bipush 16, 2) := by decide +kernel
theorem dX6_chooseSign_15 : decode cX6_chooseSign 15 = .ok (.invokevirtual 97, 3) := by decide +kernel
theorem dX6_chooseSign_18 : decode cX6_chooseSign 18 = .ok (.goto 4, 3) := by decide +kernel
theorem dX6_chooseSign_21 : decode cX6_chooseSign 21 = .ok (.iload_n 3, 1) := by decide +kernel
theorem dX6_chooseSign_22 : decode cX6_chooseSign 22 = .ok (.ireturn, 1) := by decide +kernel
theorem dX6_chooseOrder_0 : decode cX6_chooseOrder 0 = .ok (.aload_n 0, 1) := by decide +kernel
theorem dX6_chooseOrder_1 : decode cX6_chooseOrder 1 = .ok (.iload_n 1, 1) := by decide +kernel
theorem dX6_chooseOrder_2 : decode cX6_chooseOrder 2 = .ok (.invokevirtual 100, 3) := by decide +kernel
theorem dX6_chooseOrder_5 : decode cX6_chooseOrder 5 = .ok (.istore_n 2, 1) := by decide +kernel
theorem dX6_chooseOrder_6 : decode cX6_chooseOrder 6 = .ok (.iload_n 2, 1) := by decide +kernel
theorem dX6_chooseOrder_7 : decode cX6_chooseOrder 7 = .ok (.iconst (-1), 1) := by decide +kernel
theorem dX6_chooseOrder_8 : decode cX6_chooseOrder 8 = .ok (.if_icmp .ne 12, 3) := by decide +kernel
theorem dX6_chooseOrder_11 : decode cX6_chooseOrder 11 = .ok (.aload_n 0, 1) := by decide +kernel
theorem dX6_chooseOrder_12 : decode cX6_chooseOrder 12 = .ok (.bipush 6, 2) := by decide +kernel
theorem dX6_chooseOrder_14 : decode cX6_chooseOrder 14 = .ok (.invokevirtual 97, 3) := by decide +kernel
theorem dX6_chooseOrder_17 : decode cX6_chooseOrder 17 = .ok (.goto 4, 3) := by decide +kernel
theorem dX6_chooseOrder_20 : decode cX6_chooseOrder 20 = .ok (.iload_n 2, 1) := by decide +kernel
theorem dX6_chooseOrder_21 : decode cX6_chooseOrder 21 = .ok (.ireturn, 1) := by decide +kernel
theorem dX6_areBothWorn_0 : decode cX6_areBothWorn 0 = .ok (.iload_n 1, 1) := by decide +kernel
theorem dX6_areBothWorn_1 : decode cX6_areBothWorn 1 = .ok (.bipush 16, 2) := by decide +kernel
theorem dX6_areBothWorn_3 : decode cX6_areBothWorn 3 = .ok (.imul, 1) := by decide +kernel
theorem dX6_areBothWorn_4 : decode cX6_areBothWorn 4 = .ok (.iload_n 2, 1) := by decide +kernel
theorem dX6_areBothWorn_5 : decode cX6_areBothWorn 5 = .ok (.iconst 2, 1) := by decide +kernel
theorem dX6_areBothWorn_6 : decode cX6_areBothWorn 6 = .ok (.idiv, 1) := by decide +kernel
theorem dX6_areBothWorn_7 : decode cX6_areBothWorn 7 = .ok (.iconst 2, 1) := by decide +kernel
theorem dX6_areBothWorn_8 : decode cX6_areBothWorn 8 = .ok (.imul, 1) := by decide +kernel
theorem dX6_areBothWorn_9 : decode cX6_areBothWorn 9 = .ok (.iadd, 1) := by decide +kernel
theorem dX6_areBothWorn_10 : decode cX6_areBothWorn 10 = .ok (.istore_n 3, 1) := by decide +kernel
theorem dX6_areBothWorn_11 : decode cX6_areBothWorn 11 = .ok (.aload_n 0, 1) := by decide +kernel
theorem dX6_areBothWorn_12 : decode cX6_areBothWorn 12 = .ok (.getfield 61, 3) := by decide +kernel
theorem dX6_areBothWorn_15 : decode cX6_areBothWorn 15 = .ok (.iload_n 3, 1) := by decide +kernel
theorem dX6_areBothWorn_16 : decode cX6_areBothWorn 16 = .ok (.iaload, 1) := by decide +kernel
theorem dX6_areBothWorn_17 : decode cX6_areBothWorn 17 = .ok (.aload_n 0, 1) := by decide +kernel
theorem dX6_areBothWorn_18 : decode cX6_areBothWorn 18 = .ok (.getfield 21, 3) := by decide +kernel
theorem dX6_areBothWorn_21 : decode cX6_areBothWorn 21 = .ok (.if_icmp .lt 22, 3) := by decide +kernel
theorem dX6_areBothWorn_24 : decode cX6_areBothWorn 24 = .ok (.aload_n 0, 1) := by decide +kernel
theorem dX6_areBothWorn_25 : decode cX6_areBothWorn 25 = .ok (.getfield 61, 3) := by decide +kernel
theorem dX6_areBothWorn_28 : decode cX6_areBothWorn 28 = .ok (.iload_n 3, 1) := by decide +kernel
theorem dX6_areBothWorn_29 : decode cX6_areBothWorn 29 = .ok (.iconst 1, 1) := by decide +kernel
theorem dX6_areBothWorn_30 : decode cX6_areBothWorn 30 = .ok (.iadd, 1) := by decide +kernel
theorem dX6_areBothWorn_31 : decode cX6_areBothWorn 31 = .ok (.iaload, 1) := by decide +kernel
theorem dX6_areBothWorn_32 : decode cX6_areBothWorn 32 = .ok (.aload_n 0, 1) := by decide +kernel
theorem dX6_areBothWorn_33 : decode cX6_areBothWorn 33 = .ok (.getfield 21, 3) := by decide +kernel
theorem dX6_areBothWorn_36 : decode cX6_areBothWorn 36 = .ok (.if_icmp .lt 7, 3) := by decide +kernel
theorem dX6_areBothWorn_39 : decode cX6_areBothWorn 39 = .ok (.iconst 1, 1) := by decide +kernel
theorem dX6_areBothWorn_40 : decode cX6_areBothWorn 40 = .ok (.goto 4, 3) := by decide +kernel
theorem dX6_areBothWorn_43 : decode cX6_areBothWorn 43 = .ok (.iconst 0, 1) := by decide +kernel
theorem dX6_areBothWorn_44 : decode cX6_areBothWorn 44 = .ok (.ireturn, 1) := by decide +kernel
theorem dX6_seenAs_0 : decode cX6_seenAs 0 = .ok (.aload_n 0, 1) := by decide +kernel
theorem dX6_seenAs_1 : decode cX6_seenAs 1 = .ok (.iload_n 1, 1) := by decide +kernel
theorem dX6_seenAs_2 : decode cX6_seenAs 2 = .ok (.iload_n 2, 1) := by decide +kernel
theorem dX6_seenAs_3 : decode cX6_seenAs 3 = .ok (.invokevirtual 103, 3) := by decide +kernel
theorem dX6_seenAs_6 : decode cX6_seenAs 6 = .ok (.ifCond .eq 11, 3) := by decide +kernel
theorem dX6_seenAs_9 : decode cX6_seenAs 9 = .ok (.iload_n 2, 1) := by decide +kernel
theorem dX6_seenAs_10 : decode cX6_seenAs 10 = .ok (.iconst 2, 1) := by decide +kernel
theorem dX6_seenAs_11 : decode cX6_seenAs 11 = .ok (.idiv, 1) := by decide +kernel
theorem dX6_seenAs_12 : decode cX6_seenAs 12 = .ok (.iconst 2, 1) := by decide +kernel
theorem dX6_seenAs_13 : decode cX6_seenAs 13 = .ok (.imul, 1) := by decide +kernel
theorem dX6_seenAs_14 : decode cX6_seenAs 14 = .ok (.goto 4, 3) := by decide +kernel
theorem dX6_seenAs_17 : decode cX6_seenAs 17 = .ok (.iload_n 2, 1) := by decide +kernel
theorem dX6_seenAs_18 : decode cX6_seenAs 18 = .ok (.ireturn, 1) := by decide +kernel
theorem dX6_seenFor_0 : decode cX6_seenFor 0 = .ok (.aload_n 0, 1) := by decide +kernel
theorem dX6_seenFor_1 : decode cX6_seenFor 1 = .ok (.iload_n 1, 1) := by decide +kernel
theorem dX6_seenFor_2 : decode cX6_seenFor 2 = .ok (.iload_n 2, 1) := by decide +kernel
theorem dX6_seenFor_3 : decode cX6_seenFor 3 = .ok (.invokevirtual 94, 3) := by decide +kernel
theorem dX6_seenFor_6 : decode cX6_seenFor 6 = .ok (.istore_n 3, 1) := by decide +kernel
theorem dX6_seenFor_7 : decode cX6_seenFor 7 = .ok (.iload_n 3, 1) := by decide +kernel
theorem dX6_seenFor_8 : decode cX6_seenFor 8 = .ok (.iconst (-1), 1) := by decide +kernel
theorem dX6_seenFor_9 : decode cX6_seenFor 9 = .ok (.if_icmp .ne 7, 3) := by decide +kernel
theorem dX6_seenFor_12 : decode cX6_seenFor 12 = .ok (.iconst (-1), 1) := by decide +kernel
theorem dX6_seenFor_13 : decode cX6_seenFor 13 = .ok (.goto 14, 3) := by decide +kernel
theorem dX6_seenFor_16 : decode cX6_seenFor 16 = .ok (.aload_n 0, 1) := by decide +kernel
theorem dX6_seenFor_17 : decode cX6_seenFor 17 = .ok (.aload_n 0, 1) := by decide +kernel
theorem dX6_seenFor_18 : decode cX6_seenFor 18 = .ok (.getfield 33, 3) := by decide +kernel
theorem dX6_seenFor_21 : decode cX6_seenFor 21 = .ok (.iload_n 1, 1) := by decide +kernel
theorem dX6_seenFor_22 : decode cX6_seenFor 22 = .ok (.iaload, 1) := by decide +kernel
theorem dX6_seenFor_23 : decode cX6_seenFor 23 = .ok (.iload_n 3, 1) := by decide +kernel
theorem dX6_seenFor_24 : decode cX6_seenFor 24 = .ok (.invokevirtual 106, 3) := by decide +kernel
theorem dX6_seenFor_27 : decode cX6_seenFor 27 = .ok (.ireturn, 1) := by decide +kernel
theorem dX6_weightSeen_0 : decode cX6_weightSeen 0 = .ok (.aload_n 0, 1) := by decide +kernel
theorem dX6_weightSeen_1 : decode cX6_weightSeen 1 = .ok (.aload_n 0, 1) := by decide +kernel
theorem dX6_weightSeen_2 : decode cX6_weightSeen 2 = .ok (.getfield 33, 3) := by decide +kernel
theorem dX6_weightSeen_5 : decode cX6_weightSeen 5 = .ok (.iload_n 1, 1) := by decide +kernel
theorem dX6_weightSeen_6 : decode cX6_weightSeen 6 = .ok (.iaload, 1) := by decide +kernel
theorem dX6_weightSeen_7 : decode cX6_weightSeen 7 = .ok (.iload_n 3, 1) := by decide +kernel
theorem dX6_weightSeen_8 : decode cX6_weightSeen 8 = .ok (.invokevirtual 103, 3) := by decide +kernel
theorem dX6_weightSeen_11 : decode cX6_weightSeen 11 = .ok (.ifCond .eq 33, 3) := by decide +kernel
theorem dX6_weightSeen_14 : decode cX6_weightSeen 14 = .ok (.iload_n 1, 1) := by decide +kernel
theorem dX6_weightSeen_15 : decode cX6_weightSeen 15 = .ok (.iload_n 2, 1) := by decide +kernel
theorem dX6_weightSeen_16 : decode cX6_weightSeen 16 = .ok (.iload_n 3, 1) := by decide +kernel
theorem dX6_weightSeen_17 : decode cX6_weightSeen 17 = .ok (.iconst 2, 1) := by decide +kernel
theorem dX6_weightSeen_18 : decode cX6_weightSeen 18 = .ok (.idiv, 1) := by decide +kernel
theorem dX6_weightSeen_19 : decode cX6_weightSeen 19 = .ok (.iconst 2, 1) := by decide +kernel
theorem dX6_weightSeen_20 : decode cX6_weightSeen 20 = .ok (.imul, 1) := by decide +kernel
theorem dX6_weightSeen_21 : decode cX6_weightSeen 21 = .ok (.invokestatic 83, 3) := by decide +kernel
theorem dX6_weightSeen_24 : decode cX6_weightSeen 24 = .ok (.istore 4, 2) := by decide +kernel
theorem dX6_weightSeen_26 : decode cX6_weightSeen 26 = .ok (.aload_n 0, 1) := by decide +kernel
theorem dX6_weightSeen_27 : decode cX6_weightSeen 27 = .ok (.getfield 55, 3) := by decide +kernel
theorem dX6_weightSeen_30 : decode cX6_weightSeen 30 = .ok (.iload 4, 2) := by decide +kernel
theorem dX6_weightSeen_32 : decode cX6_weightSeen 32 = .ok (.iaload, 1) := by decide +kernel
theorem dX6_weightSeen_33 : decode cX6_weightSeen 33 = .ok (.aload_n 0, 1) := by decide +kernel
theorem dX6_weightSeen_34 : decode cX6_weightSeen 34 = .ok (.getfield 55, 3) := by decide +kernel
theorem dX6_weightSeen_37 : decode cX6_weightSeen 37 = .ok (.iload 4, 2) := by decide +kernel
theorem dX6_weightSeen_39 : decode cX6_weightSeen 39 = .ok (.iconst 1, 1) := by decide +kernel
theorem dX6_weightSeen_40 : decode cX6_weightSeen 40 = .ok (.iadd, 1) := by decide +kernel
theorem dX6_weightSeen_41 : decode cX6_weightSeen 41 = .ok (.iaload, 1) := by decide +kernel
theorem dX6_weightSeen_42 : decode cX6_weightSeen 42 = .ok (.iadd, 1) := by decide +kernel
theorem dX6_weightSeen_43 : decode cX6_weightSeen 43 = .ok (.ireturn, 1) := by decide +kernel
theorem dX6_weightSeen_44 : decode cX6_weightSeen 44 = .ok (.aload_n 0, 1) := by decide +kernel
theorem dX6_weightSeen_45 : decode cX6_weightSeen 45 = .ok (.getfield 55, 3) := by decide +kernel
theorem dX6_weightSeen_48 : decode cX6_weightSeen 48 = .ok (.iload_n 1, 1) := by decide +kernel
theorem dX6_weightSeen_49 : decode cX6_weightSeen 49 = .ok (.iload_n 2, 1) := by decide +kernel
theorem dX6_weightSeen_50 : decode cX6_weightSeen 50 = .ok (.iload_n 3, 1) := by decide +kernel
theorem dX6_weightSeen_51 : decode cX6_weightSeen 51 = .ok (.invokestatic 83, 3) := by decide +kernel
theorem dX6_weightSeen_54 : decode cX6_weightSeen 54 = .ok (.iaload, 1) := by decide +kernel
theorem dX6_weightSeen_55 : decode cX6_weightSeen 55 = .ok (.ireturn, 1) := by decide +kernel
theorem dX6_addToSign_0 : decode cX6_addToSign 0 = .ok (.iload_n 1, 1) := by decide +kernel
theorem dX6_addToSign_1 : decode cX6_addToSign 1 = .ok (.iload_n 2, 1) := by decide +kernel
theorem dX6_addToSign_2 : decode cX6_addToSign 2 = .ok (.iload_n 3, 1) := by decide +kernel
theorem dX6_addToSign_3 : decode cX6_addToSign 3 = .ok (.invokestatic 83, 3) := by decide +kernel
theorem dX6_addToSign_6 : decode cX6_addToSign 6 = .ok (.istore 5, 2) := by decide +kernel
theorem dX6_addToSign_8 : decode cX6_addToSign 8 = .ok (.aload_n 0, 1) := by decide +kernel
theorem dX6_addToSign_9 : decode cX6_addToSign 9 = .ok (.getfield 55, 3) := by decide +kernel
theorem dX6_addToSign_12 : decode cX6_addToSign 12 = .ok (.iload 5, 2) := by decide +kernel
theorem dX6_addToSign_14 : decode cX6_addToSign 14 = .ok (.aload_n 0, 1) := by decide +kernel
theorem dX6_addToSign_15 : decode cX6_addToSign 15 = .ok (.getfield 55, 3) := by decide +kernel
theorem dX6_addToSign_18 : decode cX6_addToSign 18 = .ok (.iload 5, 2) := by decide +kernel
theorem dX6_addToSign_20 : decode cX6_addToSign 20 = .ok (.iaload, 1) := by decide +kernel
theorem dX6_addToSign_21 : decode cX6_addToSign 21 = .ok (.iload 4, 2) := by decide +kernel
theorem dX6_addToSign_23 : decode cX6_addToSign 23 = .ok (.iadd, 1) := by decide +kernel
theorem dX6_addToSign_24 : decode cX6_addToSign 24 = .ok (.invokestatic 109, 3) := by decide +kernel
theorem dX6_addToSign_27 : decode cX6_addToSign 27 = .ok (.iastore, 1) := by decide +kernel
theorem dX6_addToSign_28 : decode cX6_addToSign 28 = .ok (.return_, 1) := by decide +kernel
theorem dX6_addToOrder_0 : decode cX6_addToOrder 0 = .ok (.iload_n 1, 1) := by decide +kernel
theorem dX6_addToOrder_1 : decode cX6_addToOrder 1 = .ok (.bipush 6, 2) := by decide +kernel
theorem dX6_addToOrder_3 : decode cX6_addToOrder 3 = .ok (.imul, 1) := by decide +kernel
theorem dX6_addToOrder_4 : decode cX6_addToOrder 4 = .ok (.iload_n 2, 1) := by decide +kernel
theorem dX6_addToOrder_5 : decode cX6_addToOrder 5 = .ok (.iadd, 1) := by decide +kernel
theorem dX6_addToOrder_6 : decode cX6_addToOrder 6 = .ok (.istore 4, 2) := by decide +kernel
theorem dX6_addToOrder_8 : decode cX6_addToOrder 8 = .ok (.aload_n 0, 1) := by decide +kernel
theorem dX6_addToOrder_9 : decode cX6_addToOrder 9 = .ok (.getfield 58, 3) := by decide +kernel
theorem dX6_addToOrder_12 : decode cX6_addToOrder 12 = .ok (.iload 4, 2) := by decide +kernel
theorem dX6_addToOrder_14 : decode cX6_addToOrder 14 = .ok (.aload_n 0, 1) := by decide +kernel
theorem dX6_addToOrder_15 : decode cX6_addToOrder 15 = .ok (.getfield 58, 3) := by decide +kernel
theorem dX6_addToOrder_18 : decode cX6_addToOrder 18 = .ok (.iload 4, 2) := by decide +kernel
theorem dX6_addToOrder_20 : decode cX6_addToOrder 20 = .ok (.iaload, 1) := by decide +kernel
theorem dX6_addToOrder_21 : decode cX6_addToOrder 21 = .ok (.iload_n 3, 1) := by decide +kernel
theorem dX6_addToOrder_22 : decode cX6_addToOrder 22 = .ok (.iadd, 1) := by decide +kernel
theorem dX6_addToOrder_23 : decode cX6_addToOrder 23 = .ok (.invokestatic 109, 3) := by decide +kernel
theorem dX6_addToOrder_26 : decode cX6_addToOrder 26 = .ok (.iastore, 1) := by decide +kernel
theorem dX6_addToOrder_27 : decode cX6_addToOrder 27 = .ok (.return_, 1) := by decide +kernel
theorem dX6_signOfYard_0 : decode cX6_signOfYard 0 = .ok (.iconst 0, 1) := by decide +kernel
theorem dX6_signOfYard_1 : decode cX6_signOfYard 1 = .ok (.istore_n 3, 1) := by decide +kernel
theorem dX6_signOfYard_2 : decode cX6_signOfYard 2 = .ok (.iconst 0, 1) := by decide +kernel
theorem dX6_signOfYard_3 : decode cX6_signOfYard 3 = .ok (.istore 4, 2) := by decide +kernel
theorem dX6_signOfYard_5 : decode cX6_signOfYard 5 = .ok (.iconst 0, 1) := by decide +kernel
theorem dX6_signOfYard_6 : decode cX6_signOfYard 6 = .ok (.istore 5, 2) := by decide +kernel
theorem dX6_signOfYard_8 : decode cX6_signOfYard 8 = .ok (.iload 5, 2) := by decide +kernel
theorem dX6_signOfYard_10 : decode cX6_signOfYard 10 = .ok (.bipush 16, 2) := by decide +kernel
theorem dX6_signOfYard_12 : decode cX6_signOfYard 12 = .ok (.if_icmp .ge 72, 3) := by decide +kernel
theorem dX6_signOfYard_15 : decode cX6_signOfYard 15 = .ok (.iconst 0, 1) := by decide +kernel
theorem dX6_signOfYard_16 : decode cX6_signOfYard 16 = .ok (.istore 6, 2) := by decide +kernel
theorem dX6_signOfYard_18 : decode cX6_signOfYard 18 = .ok (.iconst 0, 1) := by decide +kernel
theorem dX6_signOfYard_19 : decode cX6_signOfYard 19 = .ok (.istore 7, 2) := by decide +kernel
theorem dX6_signOfYard_21 : decode cX6_signOfYard 21 = .ok (.iload 7, 2) := by decide +kernel
theorem dX6_signOfYard_23 : decode cX6_signOfYard 23 = .ok (.aload_n 0, 1) := by decide +kernel
theorem dX6_signOfYard_24 : decode cX6_signOfYard 24 = .ok (.getfield 30, 3) := by decide +kernel
theorem dX6_signOfYard_27 : decode cX6_signOfYard 27 = .ok (.if_icmp .ge 37, 3) := by decide +kernel
theorem dX6_signOfYard_30 : decode cX6_signOfYard 30 = .ok (.aload_n 0, 1) := by decide +kernel
theorem dX6_signOfYard_31 : decode cX6_signOfYard 31 = .ok (.iload 7, 2) := by decide +kernel
theorem dX6_signOfYard_33 : decode cX6_signOfYard 33 = .ok (.iload_n 1, 1) := by decide +kernel
theorem dX6_signOfYard_34 : decode cX6_signOfYard 34 = .ok (.invokevirtual 90, 3) := by decide +kernel
theorem dX6_signOfYard_37 : decode cX6_signOfYard 37 = .ok (.ifCond .eq 21, 3) := by decide +kernel
theorem dX6_signOfYard_40 : decode cX6_signOfYard 40 = .ok (.iload 6, 2) := by decide +kernel
theorem dX6_signOfYard_42 : decode cX6_signOfYard 42 = .ok (.aload_n 0, 1) := by decide +kernel
theorem dX6_signOfYard_43 : decode cX6_signOfYard 43 = .ok (.getfield 55, 3) := by decide +kernel
theorem dX6_signOfYard_46 : decode cX6_signOfYard 46 = .ok (.iload 7, 2) := by decide +kernel
theorem dX6_signOfYard_48 : decode cX6_signOfYard 48 = .ok (.iload_n 2, 1) := by decide +kernel
theorem dX6_signOfYard_49 : decode cX6_signOfYard 49 = .ok (.iload 5, 2) := by decide +kernel
theorem dX6_signOfYard_51 : decode cX6_signOfYard 51 = .ok (.invokestatic 83, 3) := by decide +kernel
theorem dX6_signOfYard_54 : decode cX6_signOfYard 54 = .ok (.iaload, 1) := by decide +kernel
theorem dX6_signOfYard_55 : decode cX6_signOfYard 55 = .ok (.iadd, 1) := by decide +kernel
theorem dX6_signOfYard_56 : decode cX6_signOfYard 56 = .ok (.istore 6, 2) := by decide +kernel
theorem dX6_signOfYard_58 : decode cX6_signOfYard 58 = .ok (.iinc 7 1, 3) := by decide +kernel
theorem dX6_signOfYard_61 : decode cX6_signOfYard 61 = .ok (.goto (-40), 3) := by decide +kernel
theorem dX6_signOfYard_64 : decode cX6_signOfYard 64 = .ok (.iload 6, 2) := by decide +kernel
theorem dX6_signOfYard_66 : decode cX6_signOfYard 66 = .ok (.iload 4, 2) := by decide +kernel
theorem dX6_signOfYard_68 : decode cX6_signOfYard 68 = .ok (.if_icmp .le 10, 3) := by decide +kernel
theorem dX6_signOfYard_71 : decode cX6_signOfYard 71 = .ok (.iload 6, 2) := by decide +kernel
theorem dX6_signOfYard_73 : decode cX6_signOfYard 73 = .ok (.istore 4, 2) := by decide +kernel
theorem dX6_signOfYard_75 : decode cX6_signOfYard 75 = .ok (.iload 5, 2) := by decide +kernel
theorem dX6_signOfYard_77 : decode cX6_signOfYard 77 = .ok (.istore_n 3, 1) := by decide +kernel
theorem dX6_signOfYard_78 : decode cX6_signOfYard 78 = .ok (.iinc 5 1, 3) := by decide +kernel
theorem dX6_signOfYard_81 : decode cX6_signOfYard 81 = .ok (.goto (-73), 3) := by decide +kernel
theorem dX6_signOfYard_84 : decode cX6_signOfYard 84 = .ok (.iload_n 3, 1) := by decide +kernel
theorem dX6_signOfYard_85 : decode cX6_signOfYard 85 = .ok (.ireturn, 1) := by decide +kernel
theorem dX6_orderOfYard_0 : decode cX6_orderOfYard 0 = .ok (.iconst 0, 1) := by decide +kernel
theorem dX6_orderOfYard_1 : decode cX6_orderOfYard 1 = .ok (.istore_n 2, 1) := by decide +kernel
theorem dX6_orderOfYard_2 : decode cX6_orderOfYard 2 = .ok (.iconst 0, 1) := by decide +kernel
theorem dX6_orderOfYard_3 : decode cX6_orderOfYard 3 = .ok (.istore_n 3, 1) := by decide +kernel
theorem dX6_orderOfYard_4 : decode cX6_orderOfYard 4 = .ok (.iconst 0, 1) := by decide +kernel
theorem dX6_orderOfYard_5 : decode cX6_orderOfYard 5 = .ok (.istore 4, 2) := by decide +kernel
theorem dX6_orderOfYard_7 : decode cX6_orderOfYard 7 = .ok (.iload 4, 2) := by decide +kernel
theorem dX6_orderOfYard_9 : decode cX6_orderOfYard 9 = .ok (.bipush 6, 2) := by decide +kernel
theorem dX6_orderOfYard_11 : decode cX6_orderOfYard 11 = .ok (.if_icmp .ge 70, 3) := by decide +kernel
theorem dX6_orderOfYard_14 : decode cX6_orderOfYard 14 = .ok (.iconst 0, 1) := by decide +kernel
theorem dX6_orderOfYard_15 : decode cX6_orderOfYard 15 = .ok (.istore 5, 2) := by decide +kernel
theorem dX6_orderOfYard_17 : decode cX6_orderOfYard 17 = .ok (.iconst 0, 1) := by decide +kernel
theorem dX6_orderOfYard_18 : decode cX6_orderOfYard 18 = .ok (.istore 6, 2) := by decide +kernel
theorem dX6_orderOfYard_20 : decode cX6_orderOfYard 20 = .ok (.iload 6, 2) := by decide +kernel
theorem dX6_orderOfYard_22 : decode cX6_orderOfYard 22 = .ok (.aload_n 0, 1) := by decide +kernel
theorem dX6_orderOfYard_23 : decode cX6_orderOfYard 23 = .ok (.getfield 30, 3) := by decide +kernel
theorem dX6_orderOfYard_26 : decode cX6_orderOfYard 26 = .ok (.if_icmp .ge 37, 3) := by decide +kernel
theorem dX6_orderOfYard_29 : decode cX6_orderOfYard 29 = .ok (.aload_n 0, 1) := by decide +kernel
theorem dX6_orderOfYard_30 : decode cX6_orderOfYard 30 = .ok (.iload 6, 2) := by decide +kernel
theorem dX6_orderOfYard_32 : decode cX6_orderOfYard 32 = .ok (.iload_n 1, 1) := by decide +kernel
theorem dX6_orderOfYard_33 : decode cX6_orderOfYard 33 = .ok (.invokevirtual 90, 3) := by decide +kernel
theorem dX6_orderOfYard_36 : decode cX6_orderOfYard 36 = .ok (.ifCond .eq 21, 3) := by decide +kernel
theorem dX6_orderOfYard_39 : decode cX6_orderOfYard 39 = .ok (.iload 5, 2) := by decide +kernel
theorem dX6_orderOfYard_41 : decode cX6_orderOfYard 41 = .ok (.aload_n 0, 1) := by decide +kernel
theorem dX6_orderOfYard_42 : decode cX6_orderOfYard 42 = .ok (.getfield 58, 3) := by decide +kernel
theorem dX6_orderOfYard_45 : decode cX6_orderOfYard 45 = .ok (.iload 6, 2) := by decide +kernel
theorem dX6_orderOfYard_47 : decode cX6_orderOfYard 47 = .ok (.bipush 6, 2) := by decide +kernel
theorem dX6_orderOfYard_49 : decode cX6_orderOfYard 49 = .ok (.imul, 1) := by decide +kernel
theorem dX6_orderOfYard_50 : decode cX6_orderOfYard 50 = .ok (.iload 4, 2) := by decide +kernel
theorem dX6_orderOfYard_52 : decode cX6_orderOfYard 52 = .ok (.iadd, 1) := by decide +kernel
theorem dX6_orderOfYard_53 : decode cX6_orderOfYard 53 = .ok (.iaload, 1) := by decide +kernel
theorem dX6_orderOfYard_54 : decode cX6_orderOfYard 54 = .ok (.iadd, 1) := by decide +kernel
theorem dX6_orderOfYard_55 : decode cX6_orderOfYard 55 = .ok (.istore 5, 2) := by decide +kernel
theorem dX6_orderOfYard_57 : decode cX6_orderOfYard 57 = .ok (.iinc 6 1, 3) := by decide +kernel
theorem dX6_orderOfYard_60 : decode cX6_orderOfYard 60 = .ok (.goto (-40), 3) := by decide +kernel
theorem dX6_orderOfYard_63 : decode cX6_orderOfYard 63 = .ok (.iload 5, 2) := by decide +kernel
theorem dX6_orderOfYard_65 : decode cX6_orderOfYard 65 = .ok (.iload_n 3, 1) := by decide +kernel
theorem dX6_orderOfYard_66 : decode cX6_orderOfYard 66 = .ok (.if_icmp .le 9, 3) := by decide +kernel
theorem dX6_orderOfYard_69 : decode cX6_orderOfYard 69 = .ok (.iload 5, 2) := by decide +kernel
theorem dX6_orderOfYard_71 : decode cX6_orderOfYard 71 = .ok (.istore_n 3, 1) := by decide +kernel
theorem dX6_orderOfYard_72 : decode cX6_orderOfYard 72 = .ok (.iload 4, 2) := by decide +kernel
theorem dX6_orderOfYard_74 : decode cX6_orderOfYard 74 = .ok (.istore_n 2, 1) := by decide +kernel
theorem dX6_orderOfYard_75 : decode cX6_orderOfYard 75 = .ok (.iinc 4 1, 3) := by decide +kernel
theorem dX6_orderOfYard_78 : decode cX6_orderOfYard 78 = .ok (.goto (-71), 3) := by decide +kernel
theorem dX6_orderOfYard_81 : decode cX6_orderOfYard 81 = .ok (.iload_n 2, 1) := by decide +kernel
theorem dX6_orderOfYard_82 : decode cX6_orderOfYard 82 = .ok (.ireturn, 1) := by decide +kernel
theorem dX7_init_0 : decode cX7_init 0 = .ok (.aload_n 0, 1) := by decide +kernel
theorem dX7_init_1 : decode cX7_init 1 = .ok (.invokespecial 1, 3) := by decide +kernel
theorem dX7_init_4 : decode cX7_init 4 = .ok (.aload_n 0, 1) := by decide +kernel
theorem dX7_init_5 : decode cX7_init 5 = .ok (.new 7, 3) := by decide +kernel
theorem dX7_init_8 : decode cX7_init 8 = .ok (.dup, 1) := by decide +kernel
theorem dX7_init_9 : decode cX7_init 9 = .ok (.invokespecial 9, 3) := by decide +kernel
theorem dX7_init_12 : decode cX7_init 12 = .ok (.putfield 10, 3) := by decide +kernel
theorem dX7_init_15 : decode cX7_init 15 = .ok (.aload_n 0, 1) := by decide +kernel
theorem dX7_init_16 : decode cX7_init 16 = .ok (.new 7, 3) := by decide +kernel
theorem dX7_init_19 : decode cX7_init 19 = .ok (.dup, 1) := by decide +kernel
theorem dX7_init_20 : decode cX7_init 20 = .ok (.invokespecial 9, 3) := by decide +kernel
theorem dX7_init_23 : decode cX7_init 23 = .ok (.putfield 16, 3) := by decide +kernel
theorem dX7_init_26 : decode cX7_init 26 = .ok (.aload_n 0, 1) := by decide +kernel
theorem dX7_init_27 : decode cX7_init 27 = .ok (.iconst 4, 1) := by decide +kernel
theorem dX7_init_28 : decode cX7_init 28 = .ok (.anewarray 7, 3) := by decide +kernel
theorem dX7_init_31 : decode cX7_init 31 = .ok (.putfield 19, 3) := by decide +kernel
theorem dX7_init_34 : decode cX7_init 34 = .ok (.aload_n 0, 1) := by decide +kernel
theorem dX7_init_35 : decode cX7_init 35 = .ok (.iconst 3, 1) := by decide +kernel
theorem dX7_init_36 : decode cX7_init 36 = .ok (.anewarray 23, 3) := by decide +kernel
theorem dX7_init_39 : decode cX7_init 39 = .ok (.putfield 25, 3) := by decide +kernel
theorem dX7_init_42 : decode cX7_init 42 = .ok (.aload_n 0, 1) := by decide +kernel
theorem dX7_init_43 : decode cX7_init 43 = .ok (.bipush 6, 2) := by decide +kernel
theorem dX7_init_45 : decode cX7_init 45 = .ok (.anewarray 29, 3) := by decide +kernel
theorem dX7_init_48 : decode cX7_init 48 = .ok (.putfield 31, 3) := by decide +kernel
theorem dX7_init_51 : decode cX7_init 51 = .ok (.aload_n 0, 1) := by decide +kernel
theorem dX7_init_52 : decode cX7_init 52 = .ok (.new 35, 3) := by decide +kernel
theorem dX7_init_55 : decode cX7_init 55 = .ok (.dup, 1) := by decide +kernel
theorem dX7_init_56 : decode cX7_init 56 = .ok (.invokespecial 37, 3) := by decide +kernel
theorem dX7_init_59 : decode cX7_init 59 = .ok (.putfield 38, 3) := by decide +kernel
theorem dX7_init_62 : decode cX7_init 62 = .ok (.aload_n 0, 1) := by decide +kernel
theorem dX7_init_63 : decode cX7_init 63 = .ok (.new 42, 3) := by decide +kernel
theorem dX7_init_66 : decode cX7_init 66 = .ok (.dup, 1) := by decide +kernel
theorem dX7_init_67 : decode cX7_init 67 = .ok (.invokespecial 44, 3) := by decide +kernel
theorem dX7_init_70 : decode cX7_init 70 = .ok (.putfield 45, 3) := by decide +kernel
theorem dX7_init_73 : decode cX7_init 73 = .ok (.aload_n 0, 1) := by decide +kernel
theorem dX7_init_74 : decode cX7_init 74 = .ok (.new 49, 3) := by decide +kernel
theorem dX7_init_77 : decode cX7_init 77 = .ok (.dup, 1) := by decide +kernel
theorem dX7_init_78 : decode cX7_init 78 = .ok (.invokespecial 51, 3) := by decide +kernel
theorem dX7_init_81 : decode cX7_init 81 = .ok (.putfield 52, 3) := by decide +kernel
theorem dX7_init_84 : decode cX7_init 84 = .ok (.aload_n 0, 1) := by decide +kernel
theorem dX7_init_85 : decode cX7_init 85 = .ok (.new 56, 3) := by decide +kernel
theorem dX7_init_88 : decode cX7_init 88 = .ok (.dup, 1) := by decide +kernel
theorem dX7_init_89 : decode cX7_init 89 = .ok (.invokespecial 58, 3) := by decide +kernel
theorem dX7_init_92 : decode cX7_init 92 = .ok (.putfield 59, 3) := by decide +kernel
theorem dX7_init_95 : decode cX7_init 95 = .ok (.aload_n 0, 1) := by decide +kernel
theorem dX7_init_96 : decode cX7_init 96 = .ok (.sipush 300, 3) := by decide +kernel
theorem dX7_init_99 : decode cX7_init 99 = .ok (.newarray .int, 2) := by decide +kernel
theorem dX7_init_101 : decode cX7_init 101 = .ok (.putfield 63, 3) := by decide +kernel
theorem dX7_init_104 : decode cX7_init 104 = .ok (.aload_n 0, 1) := by decide +kernel
theorem dX7_init_105 : decode cX7_init 105 = .ok (.bipush 24, 2) := by decide +kernel
theorem dX7_init_107 : decode cX7_init 107 = .ok (.newarray .int, 2) := by decide +kernel
theorem dX7_init_109 : decode cX7_init 109 = .ok (.putfield 67, 3) := by decide +kernel
theorem dX7_init_112 : decode cX7_init 112 = .ok (.aload_n 0, 1) := by decide +kernel
theorem dX7_init_113 : decode cX7_init 113 = .ok (.bipush 24, 2) := by decide +kernel
theorem dX7_init_115 : decode cX7_init 115 = .ok (.newarray .int, 2) := by decide +kernel
theorem dX7_init_117 : decode cX7_init 117 = .ok (.putfield 70, 3) := by decide +kernel
theorem dX7_init_120 : decode cX7_init 120 = .ok (.aload_n 0, 1) := by decide +kernel
theorem dX7_init_121 : decode cX7_init 121 = .ok (.iconst 0, 1) := by decide +kernel
theorem dX7_init_122 : decode cX7_init 122 = .ok (.putfield 73, 3) := by decide +kernel
theorem dX7_init_125 : decode cX7_init 125 = .ok (.aload_n 0, 1) := by decide +kernel
theorem dX7_init_126 : decode cX7_init 126 = .ok (.iconst (-1), 1) := by decide +kernel
theorem dX7_init_127 : decode cX7_init 127 = .ok (.putfield 77, 3) := by decide +kernel
theorem dX7_init_130 : decode cX7_init 130 = .ok (.aload_n 0, 1) := by decide +kernel
theorem dX7_init_131 : decode cX7_init 131 = .ok (.iconst 0, 1) := by decide +kernel
theorem dX7_init_132 : decode cX7_init 132 = .ok (.putfield 80, 3) := by decide +kernel
theorem dX7_init_135 : decode cX7_init 135 = .ok (.aload_n 0, 1) := by decide +kernel
theorem dX7_init_136 : decode cX7_init 136 = .ok (.iconst 0, 1) := by decide +kernel
theorem dX7_init_137 : decode cX7_init 137 = .ok (.putfield 83, 3) := by decide +kernel
theorem dX7_init_140 : decode cX7_init 140 = .ok (.aload_n 0, 1) := by decide +kernel
theorem dX7_init_141 : decode cX7_init 141 = .ok (.iconst (-1), 1) := by decide +kernel
theorem dX7_init_142 : decode cX7_init 142 = .ok (.putfield 86, 3) := by decide +kernel
theorem dX7_init_145 : decode cX7_init 145 = .ok (.aload_n 0, 1) := by decide +kernel
theorem dX7_init_146 : decode cX7_init 146 = .ok (.iconst 0, 1) := by decide +kernel
theorem dX7_init_147 : decode cX7_init 147 = .ok (.putfield 89, 3) := by decide +kernel
theorem dX7_init_150 : decode cX7_init 150 = .ok (.iconst 0, 1) := by decide +kernel
theorem dX7_init_151 : decode cX7_init 151 = .ok (.istore_n 1, 1) := by decide +kernel
theorem dX7_init_152 : decode cX7_init 152 = .ok (.iload_n 1, 1) := by decide +kernel
theorem dX7_init_153 : decode cX7_init 153 = .ok (.iconst 4, 1) := by decide +kernel
theorem dX7_init_154 : decode cX7_init 154 = .ok (.if_icmp .ge 22, 3) := by decide +kernel
theorem dX7_init_157 : decode cX7_init 157 = .ok (.aload_n 0, 1) := by decide +kernel
theorem dX7_init_158 : decode cX7_init 158 = .ok (.getfield 19, 3) := by decide +kernel
theorem dX7_init_161 : decode cX7_init 161 = .ok (.iload_n 1, 1) := by decide +kernel
theorem dX7_init_162 : decode cX7_init 162 = .ok (.new 7, 3) := by decide +kernel
theorem dX7_init_165 : decode cX7_init 165 = .ok (.dup, 1) := by decide +kernel
theorem dX7_init_166 : decode cX7_init 166 = .ok (.invokespecial 9, 3) := by decide +kernel
theorem dX7_init_169 : decode cX7_init 169 = .ok (.aastore, 1) := by decide +kernel
theorem dX7_init_170 : decode cX7_init 170 = .ok (.iinc 1 1, 3) := by decide +kernel
theorem dX7_init_173 : decode cX7_init 173 = .ok (.goto (-21), 3) := by decide +kernel
theorem dX7_init_176 : decode cX7_init 176 = .ok (.iconst 0, 1) := by decide +kernel
theorem dX7_init_177 : decode cX7_init 177 = .ok (.istore_n 1, 1) := by decide +kernel
theorem dX7_init_178 : decode cX7_init 178 = .ok (.iload_n 1, 1) := by decide +kernel
theorem dX7_init_179 : decode cX7_init 179 = .ok (.iconst 3, 1) := by decide +kernel
theorem dX7_init_180 : decode cX7_init 180 = .ok (.if_icmp .ge 22, 3) := by decide +kernel
theorem dX7_init_183 : decode cX7_init 183 = .ok (.aload_n 0, 1) := by decide +kernel
theorem dX7_init_184 : decode cX7_init 184 = .ok (.getfield 25, 3) := by decide +kernel
theorem dX7_init_187 : decode cX7_init 187 = .ok (.iload_n 1, 1) := by decide +kernel
theorem dX7_init_188 : decode cX7_init 188 = .ok (.new 23, 3) := by decide +kernel
theorem dX7_init_191 : decode cX7_init 191 = .ok (.dup, 1) := by decide +kernel
theorem dX7_init_192 : decode cX7_init 192 = .ok (.invokespecial 92, 3) := by decide +kernel
theorem dX7_init_195 : decode cX7_init 195 = .ok (.aastore, 1) := by decide +kernel
theorem dX7_init_196 : decode cX7_init 196 = .ok (.iinc 1 1, 3) := by decide +kernel
theorem dX7_init_199 : decode cX7_init 199 = .ok (.goto (-21), 3) := by decide +kernel
theorem dX7_init_202 : decode cX7_init 202 = .ok (.iconst 0, 1) := by decide +kernel
theorem dX7_init_203 : decode cX7_init 203 = .ok (.istore_n 1, 1) := by decide +kernel
theorem dX7_init_204 : decode cX7_init 204 = .ok (.iload_n 1, 1) := by decide +kernel
theorem dX7_init_205 : decode cX7_init 205 = .ok (.bipush 6, 2) := by decide +kernel
theorem dX7_init_207 : decode cX7_init 207 = .ok (.if_icmp .ge 22, 3) := by decide +kernel
theorem dX7_init_210 : decode cX7_init 210 = .ok (.aload_n 0, 1) := by decide +kernel
theorem dX7_init_211 : decode cX7_init 211 = .ok (.getfield 31, 3) := by decide +kernel
theorem dX7_init_214 : decode cX7_init 214 = .ok (.iload_n 1, 1) := by decide +kernel
theorem dX7_init_215 : decode cX7_init 215 = .ok (.new 29, 3) := by decide +kernel
theorem dX7_init_218 : decode cX7_init 218 = .ok (.dup, 1) := by decide +kernel
theorem dX7_init_219 : decode cX7_init 219 = .ok (.invokespecial 93, 3) := by decide +kernel
theorem dX7_init_222 : decode cX7_init 222 = .ok (.aastore, 1) := by decide +kernel
theorem dX7_init_223 : decode cX7_init 223 = .ok (.iinc 1 1, 3) := by decide +kernel
theorem dX7_init_226 : decode cX7_init 226 = .ok (.goto (-22), 3) := by decide +kernel
theorem dX7_init_229 : decode cX7_init 229 = .ok (.return_, 1) := by decide +kernel
theorem dX7_seeds_0 : decode cX7_seeds 0 = .ok (.aload_n 0, 1) := by decide +kernel
theorem dX7_seeds_1 : decode cX7_seeds 1 = .ok (.getfield 10, 3) := by decide +kernel
theorem dX7_seeds_4 : decode cX7_seeds 4 = .ok (.iload_n 1, 1) := by decide +kernel
theorem dX7_seeds_5 : decode cX7_seeds 5 = .ok (.putfield 94, 3) := by decide +kernel
theorem dX7_seeds_8 : decode cX7_seeds 8 = .ok (.aload_n 0, 1) := by decide +kernel
theorem dX7_seeds_9 : decode cX7_seeds 9 = .ok (.getfield 10, 3) := by decide +kernel
theorem dX7_seeds_12 : decode cX7_seeds 12 = .ok (.iload_n 2, 1) := by decide +kernel
theorem dX7_seeds_13 : decode cX7_seeds 13 = .ok (.putfield 97, 3) := by decide +kernel
theorem dX7_seeds_16 : decode cX7_seeds 16 = .ok (.aload_n 0, 1) := by decide +kernel
theorem dX7_seeds_17 : decode cX7_seeds 17 = .ok (.invokevirtual 100, 3) := by decide +kernel
theorem dX7_seeds_20 : decode cX7_seeds 20 = .ok (.return_, 1) := by decide +kernel
theorem dX7_come_0 : decode cX7_come 0 = .ok (.iload_n 1, 1) := by decide +kernel
theorem dX7_come_1 : decode cX7_come 1 = .ok (.invokestatic 103, 3) := by decide +kernel
theorem dX7_come_4 : decode cX7_come 4 = .ok (.iload_n 2, 1) := by decide +kernel
theorem dX7_come_5 : decode cX7_come 5 = .ok (.ifCond .lt 9, 3) := by decide +kernel
theorem dX7_come_8 : decode cX7_come 8 = .ok (.iload_n 2, 1) := by decide +kernel
theorem dX7_come_9 : decode cX7_come 9 = .ok (.bipush 20, 2) := by decide +kernel
theorem dX7_come_11 : decode cX7_come 11 = .ok (.if_icmp .le 13, 3) := by decide +kernel
theorem dX7_come_14 : decode cX7_come 14 = .ok (.new 107, 3) := by decide +kernel
theorem dX7_come_17 : decode cX7_come 17 = .ok (.dup, 1) := by decide +kernel
theorem dX7_come_18 : decode cX7_come 18 = .ok (.ldc 109, 2) := by decide +kernel
theorem dX7_come_20 : decode cX7_come 20 = .ok (.invokespecial 111, 3) := by decide +kernel
theorem dX7_come_23 : decode cX7_come 23 = .ok (.athrow, 1) := by decide +kernel
theorem dX7_come_24 : decode cX7_come 24 = .ok (.aload_n 0, 1) := by decide +kernel
theorem dX7_come_25 : decode cX7_come 25 = .ok (.getfield 10, 3) := by decide +kernel
theorem dX7_come_28 : decode cX7_come 28 = .ok (.getfield 114, 3) := by decide +kernel
theorem dX7_come_31 : decode cX7_come 31 = .ok (.bipush 24, 2) := by decide +kernel
theorem dX7_come_33 : decode cX7_come 33 = .ok (.if_icmp .lt 5, 3) := by decide +kernel
theorem dX7_come_36 : decode cX7_come 36 = .ok (.iconst (-1), 1) := by decide +kernel
theorem dX7_come_37 : decode cX7_come 37 = .ok (.ireturn, 1) := by decide +kernel
theorem dX7_come_38 : decode cX7_come 38 = .ok (.aload_n 0, 1) := by decide +kernel
theorem dX7_come_39 : decode cX7_come 39 = .ok (.invokevirtual 100, 3) := by decide +kernel
theorem dX7_come_42 : decode cX7_come 42 = .ok (.aload_n 0, 1) := by decide +kernel
theorem dX7_come_43 : decode cX7_come 43 = .ok (.getfield 10, 3) := by decide +kernel
theorem dX7_come_46 : decode cX7_come 46 = .ok (.iload_n 1, 1) := by decide +kernel
theorem dX7_come_47 : decode cX7_come 47 = .ok (.iload_n 2, 1) := by decide +kernel
theorem dX7_come_48 : decode cX7_come 48 = .ok (.iload_n 3, 1) := by decide +kernel
theorem dX7_come_49 : decode cX7_come 49 = .ok (.invokevirtual 117, 3) := by decide +kernel
theorem dX7_come_52 : decode cX7_come 52 = .ok (.ireturn, 1) := by decide +kernel
theorem dX7_leave_0 : decode cX7_leave 0 = .ok (.aload_n 0, 1) := by decide +kernel
theorem dX7_leave_1 : decode cX7_leave 1 = .ok (.iload_n 1, 1) := by decide +kernel
theorem dX7_leave_2 : decode cX7_leave 2 = .ok (.invokevirtual 121, 3) := by decide +kernel
theorem dX7_leave_5 : decode cX7_leave 5 = .ok (.aload_n 0, 1) := by decide +kernel
theorem dX7_leave_6 : decode cX7_leave 6 = .ok (.getfield 10, 3) := by decide +kernel
theorem dX7_leave_9 : decode cX7_leave 9 = .ok (.getfield 124, 3) := by decide +kernel
theorem dX7_leave_12 : decode cX7_leave 12 = .ok (.iload_n 1, 1) := by decide +kernel
theorem dX7_leave_13 : decode cX7_leave 13 = .ok (.iaload, 1) := by decide +kernel
theorem dX7_leave_14 : decode cX7_leave 14 = .ok (.ifCond .ne 5, 3) := by decide +kernel
theorem dX7_leave_17 : decode cX7_leave 17 = .ok (.iconst 0, 1) := by decide +kernel
theorem dX7_leave_18 : decode cX7_leave 18 = .ok (.ireturn, 1) := by decide +kernel
theorem dX7_leave_19 : decode cX7_leave 19 = .ok (.aload_n 0, 1) := by decide +kernel
theorem dX7_leave_20 : decode cX7_leave 20 = .ok (.getfield 10, 3) := by decide +kernel
theorem dX7_leave_23 : decode cX7_leave 23 = .ok (.getfield 124, 3) := by decide +kernel
theorem dX7_leave_26 : decode cX7_leave 26 = .ok (.iload_n 1, 1) := by decide +kernel
theorem dX7_leave_27 : decode cX7_leave 27 = .ok (.iconst 0, 1) := by decide +kernel
theorem dX7_leave_28 : decode cX7_leave 28 = .ok (.iastore, 1) := by decide +kernel
theorem dX7_leave_29 : decode cX7_leave 29 = .ok (.aload_n 0, 1) := by decide +kernel
theorem dX7_leave_30 : decode cX7_leave 30 = .ok (.invokevirtual 100, 3) := by decide +kernel
theorem dX7_leave_33 : decode cX7_leave 33 = .ok (.iconst 1, 1) := by decide +kernel
theorem dX7_leave_34 : decode cX7_leave 34 = .ok (.ireturn, 1) := by decide +kernel
theorem dX7_visit_0 : decode cX7_visit 0 = .ok (.aload_n 0, 1) := by decide +kernel
theorem dX7_visit_1 : decode cX7_visit 1 = .ok (.iload_n 1, 1) := by decide +kernel
theorem dX7_visit_2 : decode cX7_visit 2 = .ok (.invokevirtual 121, 3) := by decide +kernel
theorem dX7_visit_5 : decode cX7_visit 5 = .ok (.iload_n 2, 1) := by decide +kernel
theorem dX7_visit_6 : decode cX7_visit 6 = .ok (.invokestatic 103, 3) := by decide +kernel
theorem dX7_visit_9 : decode cX7_visit 9 = .ok (.aload_n 0, 1) := by decide +kernel
theorem dX7_visit_10 : decode cX7_visit 10 = .ok (.getfield 10, 3) := by decide +kernel
theorem dX7_visit_13 : decode cX7_visit 13 = .ok (.getfield 124, 3) := by decide +kernel
theorem dX7_visit_16 : decode cX7_visit 16 = .ok (.iload_n 1, 1) := by decide +kernel
theorem dX7_visit_17 : decode cX7_visit 17 = .ok (.iaload, 1) := by decide +kernel
theorem dX7_visit_18 : decode cX7_visit 18 = .ok (.ifCond .ne 5, 3) := by decide +kernel
theorem dX7_visit_21 : decode cX7_visit 21 = .ok (.iconst (-1), 1) := by decide +kernel
theorem dX7_visit_22 : decode cX7_visit 22 = .ok (.ireturn, 1) := by decide +kernel
theorem dX7_visit_23 : decode cX7_visit 23 = .ok (.aload_n 0, 1) := by decide +kernel
theorem dX7_visit_24 : decode cX7_visit 24 = .ok (.getfield 10, 3) := by decide +kernel
theorem dX7_visit_27 : decode cX7_visit 27 = .ok (.getfield 127, 3) := by decide +kernel
theorem dX7_visit_30 : decode cX7_visit 30 = .ok (.iload_n 1, 1) := by decide +kernel
theorem dX7_visit_31 : decode cX7_visit 31 = .ok (.iaload, 1) := by decide +kernel
theorem dX7_visit_32 : decode cX7_visit 32 = .ok (.istore_n 3, 1) := by decide +kernel
theorem dX7_visit_33 : decode cX7_visit 33 = .ok (.aload_n 0, 1) := by decide +kernel
theorem dX7_visit_34 : decode cX7_visit 34 = .ok (.getfield 10, 3) := by decide +kernel
theorem dX7_visit_37 : decode cX7_visit 37 = .ok (.getfield 127, 3) := by decide +kernel
theorem dX7_visit_40 : decode cX7_visit 40 = .ok (.iload_n 1, 1) := by decide +kernel
theorem dX7_visit_41 : decode cX7_visit 41 = .ok (.iload_n 2, 1) := by decide +kernel
theorem dX7_visit_42 : decode cX7_visit 42 = .ok (.iastore, 1) := by decide +kernel
theorem dX7_visit_43 : decode cX7_visit 43 = .ok (.aload_n 0, 1) := by decide +kernel
theorem dX7_visit_44 : decode cX7_visit 44 = .ok (.invokevirtual 100, 3) := by decide +kernel
theorem dX7_visit_47 : decode cX7_visit 47 = .ok (.iload_n 3, 1) := by decide +kernel
theorem dX7_visit_48 : decode cX7_visit 48 = .ok (.ireturn, 1) := by decide +kernel
theorem dX7_of_0 : decode cX7_of 0 = .ok (.aload_n 0, 1) := by decide +kernel
theorem dX7_of_1 : decode cX7_of 1 = .ok (.iload_n 1, 1) := by decide +kernel
theorem dX7_of_2 : decode cX7_of 2 = .ok (.invokevirtual 121, 3) := by decide +kernel
theorem dX7_of_5 : decode cX7_of 5 = .ok (.iload_n 2, 1) := by decide +kernel
theorem dX7_of_6 : decode cX7_of 6 = .ok (.tableswitch 107 0 6 #[42, 52, 61, 71, 81, 91, 101], 42) := by decide +kernel
theorem dX7_of_48 : decode cX7_of 48 = .ok (.aload_n 0, 1) := by decide +kernel
theorem dX7_of_49 : decode cX7_of 49 = .ok (.getfield 10, 3) := by decide +kernel
theorem dX7_of_52 : decode cX7_of 52 = .ok (.getfield 127, 3) := by decide +kernel
theorem dX7_of_55 : decode cX7_of 55 = .ok (.iload_n 1, 1) := by decide +kernel
theorem dX7_of_56 : decode cX7_of 56 = .ok (.iaload, 1) := by decide +kernel
theorem dX7_of_57 : decode cX7_of 57 = .ok (.ireturn, 1) := by decide +kernel
theorem dX7_of_58 : decode cX7_of 58 = .ok (.aload_n 0, 1) := by decide +kernel
theorem dX7_of_59 : decode cX7_of 59 = .ok (.getfield 10, 3) := by decide +kernel
theorem dX7_of_62 : decode cX7_of 62 = .ok (.iload_n 1, 1) := by decide +kernel
theorem dX7_of_63 : decode cX7_of 63 = .ok (.invokevirtual 130, 3) := by decide +kernel
theorem dX7_of_66 : decode cX7_of 66 = .ok (.ireturn, 1) := by decide +kernel
theorem dX7_of_67 : decode cX7_of 67 = .ok (.aload_n 0, 1) := by decide +kernel
theorem dX7_of_68 : decode cX7_of 68 = .ok (.getfield 10, 3) := by decide +kernel
theorem dX7_of_71 : decode cX7_of 71 = .ok (.getfield 134, 3) := by decide +kernel
theorem dX7_of_74 : decode cX7_of 74 = .ok (.iload_n 1, 1) := by decide +kernel
theorem dX7_of_75 : decode cX7_of 75 = .ok (.iaload, 1) := by decide +kernel
theorem dX7_of_76 : decode cX7_of 76 = .ok (.ireturn, 1) := by decide +kernel
theorem dX7_of_77 : decode cX7_of 77 = .ok (.aload_n 0, 1) := by decide +kernel
theorem dX7_of_78 : decode cX7_of 78 = .ok (.getfield 10, 3) := by decide +kernel
theorem dX7_of_81 : decode cX7_of 81 = .ok (.getfield 124, 3) := by decide +kernel
theorem dX7_of_84 : decode cX7_of 84 = .ok (.iload_n 1, 1) := by decide +kernel
theorem dX7_of_85 : decode cX7_of 85 = .ok (.iaload, 1) := by decide +kernel
theorem dX7_of_86 : decode cX7_of 86 = .ok (.ireturn, 1) := by decide +kernel
theorem dX7_of_87 : decode cX7_of 87 = .ok (.aload_n 0, 1) := by decide +kernel
theorem dX7_of_88 : decode cX7_of 88 = .ok (.getfield 10, 3) := by decide +kernel
theorem dX7_of_91 : decode cX7_of 91 = .ok (.getfield 137, 3) := by decide +kernel
theorem dX7_of_94 : decode cX7_of 94 = .ok (.iload_n 1, 1) := by decide +kernel
theorem dX7_of_95 : decode cX7_of 95 = .ok (.iaload, 1) := by decide +kernel
theorem dX7_of_96 : decode cX7_of 96 = .ok (.ireturn, 1) := by decide +kernel
theorem dX7_of_97 : decode cX7_of 97 = .ok (.aload_n 0, 1) := by decide +kernel
theorem dX7_of_98 : decode cX7_of 98 = .ok (.getfield 10, 3) := by decide +kernel
theorem dX7_of_101 : decode cX7_of 101 = .ok (.getfield 140, 3) := by decide +kernel
theorem dX7_of_104 : decode cX7_of 104 = .ok (.iload_n 1, 1) := by decide +kernel
theorem dX7_of_105 : decode cX7_of 105 = .ok (.iaload, 1) := by decide +kernel
theorem dX7_of_106 : decode cX7_of 106 = .ok (.ireturn, 1) := by decide +kernel
theorem dX7_of_107 : decode cX7_of 107 = .ok (.aload_n 0, 1) := by decide +kernel
theorem dX7_of_108 : decode cX7_of 108 = .ok (.iload_n 1, 1) := by decide +kernel
theorem dX7_of_109 : decode cX7_of 109 = .ok (.invokevirtual 143, 3) := by decide +kernel
theorem dX7_of_112 : decode cX7_of 112 = .ok (.ireturn, 1) := by decide +kernel
theorem dX7_of_113 : decode cX7_of 113 = .ok (.new 107, 3) := by decide +kernel
theorem dX7_of_116 : decode cX7_of 116 = .ok (.dup, 1) := by decide +kernel
theorem dX7_of_117 : decode cX7_of 117 = .ok (.ldc 146, 2) := by decide +kernel
theorem dX7_of_119 : decode cX7_of 119 = .ok (.invokespecial 111, 3) := by decide +kernel
theorem dX7_of_122 : decode cX7_of 122 = .ok (.athrow, 1) := by decide +kernel
theorem dX7_sign_0 : decode cX7_sign 0 = .ok (.aload_n 0, 1) := by decide +kernel
theorem dX7_sign_1 : decode cX7_sign 1 = .ok (.iload_n 1, 1) := by decide +kernel
theorem dX7_sign_2 : decode cX7_sign 2 = .ok (.invokevirtual 121, 3) := by decide +kernel
theorem dX7_sign_5 : decode cX7_sign 5 = .ok (.iload_n 2, 1) := by decide +kernel
theorem dX7_sign_6 : decode cX7_sign 6 = .ok (.invokestatic 148, 3) := by decide +kernel
theorem dX7_sign_9 : decode cX7_sign 9 = .ok (.iload_n 3, 1) := by decide +kernel
theorem dX7_sign_10 : decode cX7_sign 10 = .ok (.invokestatic 151, 3) := by decide +kernel
theorem dX7_sign_13 : decode cX7_sign 13 = .ok (.aload_n 0, 1) := by decide +kernel
theorem dX7_sign_14 : decode cX7_sign 14 = .ok (.getfield 10, 3) := by decide +kernel
theorem dX7_sign_17 : decode cX7_sign 17 = .ok (.getfield 154, 3) := by decide +kernel
theorem dX7_sign_20 : decode cX7_sign 20 = .ok (.iload_n 1, 1) := by decide +kernel
theorem dX7_sign_21 : decode cX7_sign 21 = .ok (.iload_n 2, 1) := by decide +kernel
theorem dX7_sign_22 : decode cX7_sign 22 = .ok (.iload_n 3, 1) := by decide +kernel
theorem dX7_sign_23 : decode cX7_sign 23 = .ok (.invokestatic 157, 3) := by decide +kernel
theorem dX7_sign_26 : decode cX7_sign 26 = .ok (.iaload, 1) := by decide +kernel
theorem dX7_sign_27 : decode cX7_sign 27 = .ok (.ireturn, 1) := by decide +kernel
theorem dX7_order_0 : decode cX7_order 0 = .ok (.aload_n 0, 1) := by decide +kernel
theorem dX7_order_1 : decode cX7_order 1 = .ok (.iload_n 1, 1) := by decide +kernel
theorem dX7_order_2 : decode cX7_order 2 = .ok (.invokevirtual 121, 3) := by decide +kernel
theorem dX7_order_5 : decode cX7_order 5 = .ok (.iload_n 2, 1) := by decide +kernel
theorem dX7_order_6 : decode cX7_order 6 = .ok (.invokestatic 161, 3) := by decide +kernel
theorem dX7_order_9 : decode cX7_order 9 = .ok (.aload_n 0, 1) := by decide +kernel
theorem dX7_order_10 : decode cX7_order 10 = .ok (.getfield 10, 3) := by decide +kernel
theorem dX7_order_13 : decode cX7_order 13 = .ok (.getfield 164, 3) := by decide +kernel
theorem dX7_order_16 : decode cX7_order 16 = .ok (.iload_n 1, 1) := by decide +kernel
theorem dX7_order_17 : decode cX7_order 17 = .ok (.bipush 6, 2) := by decide +kernel
theorem dX7_order_19 : decode cX7_order 19 = .ok (.imul, 1) := by decide +kernel
theorem dX7_order_20 : decode cX7_order 20 = .ok (.iload_n 2, 1) := by decide +kernel
theorem dX7_order_21 : decode cX7_order 21 = .ok (.iadd, 1) := by decide +kernel
theorem dX7_order_22 : decode cX7_order 22 = .ok (.iaload, 1) := by decide +kernel
theorem dX7_order_23 : decode cX7_order 23 = .ok (.ireturn, 1) := by decide +kernel
theorem dX7_holds_0 : decode cX7_holds 0 = .ok (.aload_n 0, 1) := by decide +kernel
theorem dX7_holds_1 : decode cX7_holds 1 = .ok (.iload_n 1, 1) := by decide +kernel
theorem dX7_holds_2 : decode cX7_holds 2 = .ok (.invokevirtual 121, 3) := by decide +kernel
theorem dX7_holds_5 : decode cX7_holds 5 = .ok (.iload_n 2, 1) := by decide +kernel
theorem dX7_holds_6 : decode cX7_holds 6 = .ok (.invokestatic 161, 3) := by decide +kernel
theorem dX7_holds_9 : decode cX7_holds 9 = .ok (.aload_n 0, 1) := by decide +kernel
theorem dX7_holds_10 : decode cX7_holds 10 = .ok (.invokevirtual 167, 3) := by decide +kernel
theorem dX7_holds_13 : decode cX7_holds 13 = .ok (.aload_n 0, 1) := by decide +kernel
theorem dX7_holds_14 : decode cX7_holds 14 = .ok (.getfield 52, 3) := by decide +kernel
theorem dX7_holds_17 : decode cX7_holds 17 = .ok (.aload_n 0, 1) := by decide +kernel
theorem dX7_holds_18 : decode cX7_holds 18 = .ok (.getfield 10, 3) := by decide +kernel
theorem dX7_holds_21 : decode cX7_holds 21 = .ok (.iload_n 1, 1) := by decide +kernel
theorem dX7_holds_22 : decode cX7_holds 22 = .ok (.iload_n 2, 1) := by decide +kernel
theorem dX7_holds_23 : decode cX7_holds 23 = .ok (.invokevirtual 170, 3) := by decide +kernel
theorem dX7_holds_26 : decode cX7_holds 26 = .ok (.ireturn, 1) := by decide +kernel
theorem dX7_set_0 : decode cX7_set 0 = .ok (.iload_n 1, 1) := by decide +kernel
theorem dX7_set_1 : decode cX7_set 1 = .ok (.ifCond .ne 35, 3) := by decide +kernel
theorem dX7_set_4 : decode cX7_set 4 = .ok (.iload_n 2, 1) := by decide +kernel
theorem dX7_set_5 : decode cX7_set 5 = .ok (.bipush 10, 2) := by decide +kernel
theorem dX7_set_7 : decode cX7_set 7 = .ok (.if_icmp .lt 29, 3) := by decide +kernel
theorem dX7_set_10 : decode cX7_set 10 = .ok (.iload_n 2, 1) := by decide +kernel
theorem dX7_set_11 : decode cX7_set 11 = .ok (.sipush 10000, 3) := by decide +kernel
theorem dX7_set_14 : decode cX7_set 14 = .ok (.if_icmp .gt 22, 3) := by decide +kernel
theorem dX7_set_17 : decode cX7_set 17 = .ok (.aload_n 0, 1) := by decide +kernel
theorem dX7_set_18 : decode cX7_set 18 = .ok (.getfield 10, 3) := by decide +kernel
theorem dX7_set_21 : decode cX7_set 21 = .ok (.getfield 174, 3) := by decide +kernel
theorem dX7_set_24 : decode cX7_set 24 = .ok (.istore_n 3, 1) := by decide +kernel
theorem dX7_set_25 : decode cX7_set 25 = .ok (.aload_n 0, 1) := by decide +kernel
theorem dX7_set_26 : decode cX7_set 26 = .ok (.getfield 10, 3) := by decide +kernel
theorem dX7_set_29 : decode cX7_set 29 = .ok (.iload_n 2, 1) := by decide +kernel
theorem dX7_set_30 : decode cX7_set 30 = .ok (.putfield 174, 3) := by decide +kernel
theorem dX7_set_33 : decode cX7_set 33 = .ok (.goto 47, 3) := by decide +kernel
theorem dX7_set_36 : decode cX7_set 36 = .ok (.iload_n 1, 1) := by decide +kernel
theorem dX7_set_37 : decode cX7_set 37 = .ok (.iconst 1, 1) := by decide +kernel
theorem dX7_set_38 : decode cX7_set 38 = .ok (.if_icmp .ne 32, 3) := by decide +kernel
theorem dX7_set_41 : decode cX7_set 41 = .ok (.iload_n 2, 1) := by decide +kernel
theorem dX7_set_42 : decode cX7_set 42 = .ok (.ifCond .lt 28, 3) := by decide +kernel
theorem dX7_set_45 : decode cX7_set 45 = .ok (.iload_n 2, 1) := by decide +kernel
theorem dX7_set_46 : decode cX7_set 46 = .ok (.bipush 100, 2) := by decide +kernel
theorem dX7_set_48 : decode cX7_set 48 = .ok (.if_icmp .gt 22, 3) := by decide +kernel
theorem dX7_set_51 : decode cX7_set 51 = .ok (.aload_n 0, 1) := by decide +kernel
theorem dX7_set_52 : decode cX7_set 52 = .ok (.getfield 10, 3) := by decide +kernel
theorem dX7_set_55 : decode cX7_set 55 = .ok (.getfield 177, 3) := by decide +kernel
theorem dX7_set_58 : decode cX7_set 58 = .ok (.istore_n 3, 1) := by decide +kernel
theorem dX7_set_59 : decode cX7_set 59 = .ok (.aload_n 0, 1) := by decide +kernel
theorem dX7_set_60 : decode cX7_set 60 = .ok (.getfield 10, 3) := by decide +kernel
theorem dX7_set_63 : decode cX7_set 63 = .ok (.iload_n 2, 1) := by decide +kernel
theorem dX7_set_64 : decode cX7_set 64 = .ok (.putfield 177, 3) := by decide +kernel
theorem dX7_set_67 : decode cX7_set 67 = .ok (.goto 13, 3) := by decide +kernel
theorem dX7_set_70 : decode cX7_set 70 = .ok (.new 107, 3) := by decide +kernel
theorem dX7_set_73 : decode cX7_set 73 = .ok (.dup, 1) := by decide +kernel
theorem dX7_set_74 : decode cX7_set 74 = .ok (.ldc 180, 2) := by decide +kernel
theorem dX7_set_76 : decode cX7_set 76 = .ok (.invokespecial 111, 3) := by decide +kernel
theorem dX7_set_79 : decode cX7_set 79 = .ok (.athrow, 1) := by decide +kernel
theorem dX7_set_80 : decode cX7_set 80 = .ok (.aload_n 0, 1) := by decide +kernel
theorem dX7_set_81 : decode cX7_set 81 = .ok (.invokevirtual 100, 3) := by decide +kernel
theorem dX7_set_84 : decode cX7_set 84 = .ok (.iload_n 3, 1) := by decide +kernel
theorem dX7_set_85 : decode cX7_set 85 = .ok (.ireturn, 1) := by decide +kernel
theorem dX7_years_0 : decode cX7_years 0 = .ok (.iload_n 1, 1) := by decide +kernel
theorem dX7_years_1 : decode cX7_years 1 = .ok (.ifCond .lt 9, 3) := by decide +kernel
theorem dX7_years_4 : decode cX7_years 4 = .ok (.iload_n 1, 1) := by decide +kernel
theorem dX7_years_5 : decode cX7_years 5 = .ok (.bipush 60, 2) := by decide +kernel
theorem dX7_years_7 : decode cX7_years 7 = .ok (.if_icmp .le 13, 3) := by decide +kernel
theorem dX7_years_10 : decode cX7_years 10 = .ok (.new 107, 3) := by decide +kernel
theorem dX7_years_13 : decode cX7_years 13 = .ok (.dup, 1) := by decide +kernel
theorem dX7_years_14 : decode cX7_years 14 = .ok (.ldc 182, 2) := by decide +kernel
theorem dX7_years_16 : decode cX7_years 16 = .ok (.invokespecial 111, 3) := by decide +kernel
theorem dX7_years_19 : decode cX7_years 19 = .ok (.athrow, 1) := by decide +kernel
theorem dX7_years_20 : decode cX7_years 20 = .ok (.aload_n 0, 1) := by decide +kernel
theorem dX7_years_21 : decode cX7_years 21 = .ok (.getfield 10, 3) := by decide +kernel
theorem dX7_years_24 : decode cX7_years 24 = .ok (.getfield 184, 3) := by decide +kernel
theorem dX7_years_27 : decode cX7_years 27 = .ok (.iload_n 1, 1) := by decide +kernel
theorem dX7_years_28 : decode cX7_years 28 = .ok (.iadd, 1) := by decide +kernel
theorem dX7_years_29 : decode cX7_years 29 = .ok (.bipush 60, 2) := by decide +kernel
theorem dX7_years_31 : decode cX7_years 31 = .ok (.if_icmp .le 13, 3) := by decide +kernel
theorem dX7_years_34 : decode cX7_years 34 = .ok (.new 187, 3) := by decide +kernel
theorem dX7_years_37 : decode cX7_years 37 = .ok (.dup, 1) := by decide +kernel
theorem dX7_years_38 : decode cX7_years 38 = .ok (.ldc 189, 2) := by decide +kernel
theorem dX7_years_40 : decode cX7_years 40 = .ok (.invokespecial 191, 3) := by decide +kernel
theorem dX7_years_43 : decode cX7_years 43 = .ok (.athrow, 1) := by decide +kernel
theorem dX7_years_44 : decode cX7_years 44 = .ok (.aload_n 0, 1) := by decide +kernel
theorem dX7_years_45 : decode cX7_years 45 = .ok (.getfield 10, 3) := by decide +kernel
theorem dX7_years_48 : decode cX7_years 48 = .ok (.dup, 1) := by decide +kernel
theorem dX7_years_49 : decode cX7_years 49 = .ok (.getfield 184, 3) := by decide +kernel
theorem dX7_years_52 : decode cX7_years 52 = .ok (.iload_n 1, 1) := by decide +kernel
theorem dX7_years_53 : decode cX7_years 53 = .ok (.iadd, 1) := by decide +kernel
theorem dX7_years_54 : decode cX7_years 54 = .ok (.putfield 184, 3) := by decide +kernel
theorem dX7_years_57 : decode cX7_years 57 = .ok (.aload_n 0, 1) := by decide +kernel
theorem dX7_years_58 : decode cX7_years 58 = .ok (.invokevirtual 100, 3) := by decide +kernel
theorem dX7_years_61 : decode cX7_years 61 = .ok (.aload_n 0, 1) := by decide +kernel
theorem dX7_years_62 : decode cX7_years 62 = .ok (.getfield 10, 3) := by decide +kernel
theorem dX7_years_65 : decode cX7_years 65 = .ok (.getfield 184, 3) := by decide +kernel
theorem dX7_years_68 : decode cX7_years 68 = .ok (.ireturn, 1) := by decide +kernel
theorem dX7_feed_0 : decode cX7_feed 0 = .ok (.aload_n 0, 1) := by decide +kernel
theorem dX7_feed_1 : decode cX7_feed 1 = .ok (.getfield 73, 3) := by decide +kernel
theorem dX7_feed_4 : decode cX7_feed 4 = .ok (.bipush 20, 2) := by decide +kernel
theorem dX7_feed_6 : decode cX7_feed 6 = .ok (.iadd, 1) := by decide +kernel
theorem dX7_feed_7 : decode cX7_feed 7 = .ok (.sipush 300, 3) := by decide +kernel
theorem dX7_feed_10 : decode cX7_feed 10 = .ok (.if_icmp .le 5, 3) := by decide +kernel
theorem dX7_feed_13 : decode cX7_feed 13 = .ok (.iconst (-1), 1) := by decide +kernel
theorem dX7_feed_14 : decode cX7_feed 14 = .ok (.ireturn, 1) := by decide +kernel
theorem dX7_feed_15 : decode cX7_feed 15 = .ok (.aload_n 0, 1) := by decide +kernel
theorem dX7_feed_16 : decode cX7_feed 16 = .ok (.iload_n 1, 1) := by decide +kernel
theorem dX7_feed_17 : decode cX7_feed 17 = .ok (.invokevirtual 192, 3) := by decide +kernel
theorem dX7_feed_20 : decode cX7_feed 20 = .ok (.aload_n 0, 1) := by decide +kernel
theorem dX7_feed_21 : decode cX7_feed 21 = .ok (.iload_n 2, 1) := by decide +kernel
theorem dX7_feed_22 : decode cX7_feed 22 = .ok (.invokevirtual 192, 3) := by decide +kernel
theorem dX7_feed_25 : decode cX7_feed 25 = .ok (.aload_n 0, 1) := by decide +kernel
theorem dX7_feed_26 : decode cX7_feed 26 = .ok (.iload_n 3, 1) := by decide +kernel
theorem dX7_feed_27 : decode cX7_feed 27 = .ok (.invokevirtual 192, 3) := by decide +kernel
theorem dX7_feed_30 : decode cX7_feed 30 = .ok (.aload_n 0, 1) := by decide +kernel
theorem dX7_feed_31 : decode cX7_feed 31 = .ok (.iload 4, 2) := by decide +kernel
theorem dX7_feed_33 : decode cX7_feed 33 = .ok (.invokevirtual 192, 3) := by decide +kernel
theorem dX7_feed_36 : decode cX7_feed 36 = .ok (.aload_n 0, 1) := by decide +kernel
theorem dX7_feed_37 : decode cX7_feed 37 = .ok (.iload 5, 2) := by decide +kernel
theorem dX7_feed_39 : decode cX7_feed 39 = .ok (.invokevirtual 192, 3) := by decide +kernel
theorem dX7_feed_42 : decode cX7_feed 42 = .ok (.aload_n 0, 1) := by decide +kernel
theorem dX7_feed_43 : decode cX7_feed 43 = .ok (.getfield 73, 3) := by decide +kernel
theorem dX7_feed_46 : decode cX7_feed 46 = .ok (.ireturn, 1) := by decide +kernel
theorem dX7_law_0 : decode cX7_law 0 = .ok (.iload_n 1, 1) := by decide +kernel
theorem dX7_law_1 : decode cX7_law 1 = .ok (.ifCond .lt 11, 3) := by decide +kernel
theorem dX7_law_4 : decode cX7_law 4 = .ok (.iload_n 1, 1) := by decide +kernel
theorem dX7_law_5 : decode cX7_law 5 = .ok (.aload_n 0, 1) := by decide +kernel
theorem dX7_law_6 : decode cX7_law 6 = .ok (.getfield 73, 3) := by decide +kernel
theorem dX7_law_9 : decode cX7_law 9 = .ok (.if_icmp .le 13, 3) := by decide +kernel
theorem dX7_law_12 : decode cX7_law 12 = .ok (.new 107, 3) := by decide +kernel
theorem dX7_law_15 : decode cX7_law 15 = .ok (.dup, 1) := by decide +kernel
theorem dX7_law_16 : decode cX7_law 16 = .ok (.ldc 195, 2) := by decide +kernel
theorem dX7_law_18 : decode cX7_law 18 = .ok (.invokespecial 111, 3) := by decide +kernel
theorem dX7_law_21 : decode cX7_law 21 = .ok (.athrow, 1) := by decide +kernel
theorem dX7_law_22 : decode cX7_law 22 = .ok (.aload_n 0, 1) := by decide +kernel
theorem dX7_law_23 : decode cX7_law 23 = .ok (.iconst 0, 1) := by decide +kernel
theorem dX7_law_24 : decode cX7_law 24 = .ok (.putfield 73, 3) := by decide +kernel
theorem dX7_law_27 : decode cX7_law 27 = .ok (.aload_n 0, 1) := by decide +kernel
theorem dX7_law_28 : decode cX7_law 28 = .ok (.iconst (-1), 1) := by decide +kernel
theorem dX7_law_29 : decode cX7_law 29 = .ok (.putfield 77, 3) := by decide +kernel
theorem dX7_law_32 : decode cX7_law 32 = .ok (.aload_n 0, 1) := by decide +kernel
theorem dX7_law_33 : decode cX7_law 33 = .ok (.getfield 80, 3) := by decide +kernel
theorem dX7_law_36 : decode cX7_law 36 = .ok (.bipush 6, 2) := by decide +kernel
theorem dX7_law_38 : decode cX7_law 38 = .ok (.if_icmp .lt 5, 3) := by decide +kernel
theorem dX7_law_41 : decode cX7_law 41 = .ok (.iconst (-1), 1) := by decide +kernel
theorem dX7_law_42 : decode cX7_law 42 = .ok (.ireturn, 1) := by decide +kernel
theorem dX7_law_43 : decode cX7_law 43 = .ok (.aload_n 0, 1) := by decide +kernel
theorem dX7_law_44 : decode cX7_law 44 = .ok (.getfield 59, 3) := by decide +kernel
theorem dX7_law_47 : decode cX7_law 47 = .ok (.aload_n 0, 1) := by decide +kernel
theorem dX7_law_48 : decode cX7_law 48 = .ok (.getfield 63, 3) := by decide +kernel
theorem dX7_law_51 : decode cX7_law 51 = .ok (.iload_n 1, 1) := by decide +kernel
theorem dX7_law_52 : decode cX7_law 52 = .ok (.aload_n 0, 1) := by decide +kernel
theorem dX7_law_53 : decode cX7_law 53 = .ok (.getfield 31, 3) := by decide +kernel
theorem dX7_law_56 : decode cX7_law 56 = .ok (.aload_n 0, 1) := by decide +kernel
theorem dX7_law_57 : decode cX7_law 57 = .ok (.getfield 80, 3) := by decide +kernel
theorem dX7_law_60 : decode cX7_law 60 = .ok (.aaload, 1) := by decide +kernel
theorem dX7_law_61 : decode cX7_law 61 = .ok (.invokevirtual 197, 3) := by decide +kernel
theorem dX7_law_64 : decode cX7_law 64 = .ok (.istore_n 2, 1) := by decide +kernel
theorem dX7_law_65 : decode cX7_law 65 = .ok (.iload_n 2, 1) := by decide +kernel
theorem dX7_law_66 : decode cX7_law 66 = .ok (.ifCond .eq 19, 3) := by decide +kernel
theorem dX7_law_69 : decode cX7_law 69 = .ok (.aload_n 0, 1) := by decide +kernel
theorem dX7_law_70 : decode cX7_law 70 = .ok (.aload_n 0, 1) := by decide +kernel
theorem dX7_law_71 : decode cX7_law 71 = .ok (.getfield 59, 3) := by decide +kernel
theorem dX7_law_74 : decode cX7_law 74 = .ok (.getfield 201, 3) := by decide +kernel
theorem dX7_law_77 : decode cX7_law 77 = .ok (.putfield 77, 3) := by decide +kernel
theorem dX7_law_80 : decode cX7_law 80 = .ok (.iload_n 2, 1) := by decide +kernel
theorem dX7_law_81 : decode cX7_law 81 = .ok (.bipush 10, 2) := by decide +kernel
theorem dX7_law_83 : decode cX7_law 83 = .ok (.isub, 1) := by decide +kernel
theorem dX7_law_84 : decode cX7_law 84 = .ok (.ireturn, 1) := by decide +kernel
theorem dX7_law_85 : decode cX7_law 85 = .ok (.aload_n 0, 1) := by decide +kernel
theorem dX7_law_86 : decode cX7_law 86 = .ok (.dup, 1) := by decide +kernel
theorem dX7_law_87 : decode cX7_law 87 = .ok (.getfield 80, 3) := by decide +kernel
theorem dX7_law_90 : decode cX7_law 90 = .ok (.iconst 1, 1) := by decide +kernel
theorem dX7_law_91 : decode cX7_law 91 = .ok (.iadd, 1) := by decide +kernel
theorem dX7_law_92 : decode cX7_law 92 = .ok (.putfield 80, 3) := by decide +kernel
theorem dX7_law_95 : decode cX7_law 95 = .ok (.aload_n 0, 1) := by decide +kernel
theorem dX7_law_96 : decode cX7_law 96 = .ok (.getfield 80, 3) := by decide +kernel
theorem dX7_law_99 : decode cX7_law 99 = .ok (.iconst 1, 1) := by decide +kernel
theorem dX7_law_100 : decode cX7_law 100 = .ok (.isub, 1) := by decide +kernel
theorem dX7_law_101 : decode cX7_law 101 = .ok (.ireturn, 1) := by decide +kernel
theorem dX7_fault_0 : decode cX7_fault 0 = .ok (.aload_n 0, 1) := by decide +kernel
theorem dX7_fault_1 : decode cX7_fault 1 = .ok (.getfield 77, 3) := by decide +kernel
theorem dX7_fault_4 : decode cX7_fault 4 = .ok (.ireturn, 1) := by decide +kernel
theorem dX7_force_0 : decode cX7_force 0 = .ok (.aload_n 0, 1) := by decide +kernel
theorem dX7_force_1 : decode cX7_force 1 = .ok (.iload_n 1, 1) := by decide +kernel
theorem dX7_force_2 : decode cX7_force 2 = .ok (.invokevirtual 202, 3) := by decide +kernel
theorem dX7_force_5 : decode cX7_force 5 = .ok (.aload_n 0, 1) := by decide +kernel
theorem dX7_force_6 : decode cX7_force 6 = .ok (.getfield 10, 3) := by decide +kernel
theorem dX7_force_9 : decode cX7_force 9 = .ok (.getfield 205, 3) := by decide +kernel
theorem dX7_force_12 : decode cX7_force 12 = .ok (.istore_n 2, 1) := by decide +kernel
theorem dX7_force_13 : decode cX7_force 13 = .ok (.aload_n 0, 1) := by decide +kernel
theorem dX7_force_14 : decode cX7_force 14 = .ok (.getfield 10, 3) := by decide +kernel
theorem dX7_force_17 : decode cX7_force 17 = .ok (.iload_n 1, 1) := by decide +kernel
theorem dX7_force_18 : decode cX7_force 18 = .ok (.putfield 205, 3) := by decide +kernel
theorem dX7_force_21 : decode cX7_force 21 = .ok (.aload_n 0, 1) := by decide +kernel
theorem dX7_force_22 : decode cX7_force 22 = .ok (.invokevirtual 100, 3) := by decide +kernel
theorem dX7_force_25 : decode cX7_force 25 = .ok (.iload_n 2, 1) := by decide +kernel
theorem dX7_force_26 : decode cX7_force 26 = .ok (.ireturn, 1) := by decide +kernel
theorem dX7_talk_0 : decode cX7_talk 0 = .ok (.aload_n 0, 1) := by decide +kernel
theorem dX7_talk_1 : decode cX7_talk 1 = .ok (.iload_n 1, 1) := by decide +kernel
theorem dX7_talk_2 : decode cX7_talk 2 = .ok (.invokevirtual 121, 3) := by decide +kernel
theorem dX7_talk_5 : decode cX7_talk 5 = .ok (.aload_n 0, 1) := by decide +kernel
theorem dX7_talk_6 : decode cX7_talk 6 = .ok (.iload_n 2, 1) := by decide +kernel
theorem dX7_talk_7 : decode cX7_talk 7 = .ok (.invokevirtual 121, 3) := by decide +kernel
theorem dX7_talk_10 : decode cX7_talk 10 = .ok (.iload_n 1, 1) := by decide +kernel
theorem dX7_talk_11 : decode cX7_talk 11 = .ok (.iload_n 2, 1) := by decide +kernel
theorem dX7_talk_12 : decode cX7_talk 12 = .ok (.if_icmp .eq 26, 3) := by decide +kernel
theorem dX7_talk_15 : decode cX7_talk 15 = .ok (.iload_n 3, 1) := by decide +kernel
theorem dX7_talk_16 : decode cX7_talk 16 = .ok (.invokestatic 208, 3) := by decide +kernel
theorem dX7_talk_19 : decode cX7_talk 19 = .ok (.ifCond .eq 19, 3) := by decide +kernel
theorem dX7_talk_22 : decode cX7_talk 22 = .ok (.iload 4, 2) := by decide +kernel
theorem dX7_talk_24 : decode cX7_talk 24 = .ok (.invokestatic 208, 3) := by decide +kernel
theorem dX7_talk_27 : decode cX7_talk 27 = .ok (.ifCond .eq 11, 3) := by decide +kernel
theorem dX7_talk_30 : decode cX7_talk 30 = .ok (.iload 5, 2) := by decide +kernel
theorem dX7_talk_32 : decode cX7_talk 32 = .ok (.invokestatic 208, 3) := by decide +kernel
theorem dX7_talk_35 : decode cX7_talk 35 = .ok (.ifCond .ne 13, 3) := by decide +kernel
theorem dX7_talk_38 : decode cX7_talk 38 = .ok (.new 107, 3) := by decide +kernel
theorem dX7_talk_41 : decode cX7_talk 41 = .ok (.dup, 1) := by decide +kernel
theorem dX7_talk_42 : decode cX7_talk 42 = .ok (.ldc 212, 2) := by decide +kernel
theorem dX7_talk_44 : decode cX7_talk 44 = .ok (.invokespecial 111, 3) := by decide +kernel
theorem dX7_talk_47 : decode cX7_talk 47 = .ok (.athrow, 1) := by decide +kernel
theorem dX7_talk_48 : decode cX7_talk 48 = .ok (.aload_n 0, 1) := by decide +kernel
theorem dX7_talk_49 : decode cX7_talk 49 = .ok (.getfield 38, 3) := by decide +kernel
theorem dX7_talk_52 : decode cX7_talk 52 = .ok (.getfield 214, 3) := by decide +kernel
theorem dX7_talk_55 : decode cX7_talk 55 = .ok (.sipush 1500, 3) := by decide +kernel
theorem dX7_talk_58 : decode cX7_talk 58 = .ok (.if_icmp .lt 5, 3) := by decide +kernel
theorem dX7_talk_61 : decode cX7_talk 61 = .ok (.iconst (-1), 1) := by decide +kernel
theorem dX7_talk_62 : decode cX7_talk 62 = .ok (.ireturn, 1) := by decide +kernel
theorem dX7_talk_63 : decode cX7_talk 63 = .ok (.aload_n 0, 1) := by decide +kernel
theorem dX7_talk_64 : decode cX7_talk 64 = .ok (.getfield 10, 3) := by decide +kernel
theorem dX7_talk_67 : decode cX7_talk 67 = .ok (.iload_n 1, 1) := by decide +kernel
theorem dX7_talk_68 : decode cX7_talk 68 = .ok (.iload_n 2, 1) := by decide +kernel
theorem dX7_talk_69 : decode cX7_talk 69 = .ok (.invokevirtual 217, 3) := by decide +kernel
theorem dX7_talk_72 : decode cX7_talk 72 = .ok (.ifCond .ne 6, 3) := by decide +kernel
theorem dX7_talk_75 : decode cX7_talk 75 = .ok (.bipush (-2), 2) := by decide +kernel
theorem dX7_talk_77 : decode cX7_talk 77 = .ok (.ireturn, 1) := by decide +kernel
theorem dX7_talk_78 : decode cX7_talk 78 = .ok (.aload_n 0, 1) := by decide +kernel
theorem dX7_talk_79 : decode cX7_talk 79 = .ok (.getfield 45, 3) := by decide +kernel
theorem dX7_talk_82 : decode cX7_talk 82 = .ok (.iload_n 1, 1) := by decide +kernel
theorem dX7_talk_83 : decode cX7_talk 83 = .ok (.iload_n 2, 1) := by decide +kernel
theorem dX7_talk_84 : decode cX7_talk 84 = .ok (.iload_n 3, 1) := by decide +kernel
theorem dX7_talk_85 : decode cX7_talk 85 = .ok (.iload 4, 2) := by decide +kernel
theorem dX7_talk_87 : decode cX7_talk 87 = .ok (.iload 5, 2) := by decide +kernel
theorem dX7_talk_89 : decode cX7_talk 89 = .ok (.invokevirtual 221, 3) := by decide +kernel
theorem dX7_talk_92 : decode cX7_talk 92 = .ok (.aload_n 0, 1) := by decide +kernel
theorem dX7_talk_93 : decode cX7_talk 93 = .ok (.invokevirtual 167, 3) := by decide +kernel
theorem dX7_talk_96 : decode cX7_talk 96 = .ok (.aload_n 0, 1) := by decide +kernel
theorem dX7_talk_97 : decode cX7_talk 97 = .ok (.invokevirtual 225, 3) := by decide +kernel
theorem dX7_talk_100 : decode cX7_talk 100 = .ok (.aload_n 0, 1) := by decide +kernel
theorem dX7_talk_101 : decode cX7_talk 101 = .ok (.getfield 45, 3) := by decide +kernel
theorem dX7_talk_104 : decode cX7_talk 104 = .ok (.getfield 228, 3) := by decide +kernel
theorem dX7_talk_107 : decode cX7_talk 107 = .ok (.ifCond .eq 7, 3) := by decide +kernel
theorem dX7_talk_110 : decode cX7_talk 110 = .ok (.iconst 1, 1) := by decide +kernel
theorem dX7_talk_111 : decode cX7_talk 111 = .ok (.goto 4, 3) := by decide +kernel
theorem dX7_talk_114 : decode cX7_talk 114 = .ok (.iconst 0, 1) := by decide +kernel
theorem dX7_talk_115 : decode cX7_talk 115 = .ok (.ireturn, 1) := by decide +kernel
theorem dX7_run_0 : decode cX7_run 0 = .ok (.iload_n 1, 1) := by decide +kernel
theorem dX7_run_1 : decode cX7_run 1 = .ok (.invokestatic 103, 3) := by decide +kernel
theorem dX7_run_4 : decode cX7_run 4 = .ok (.iload_n 2, 1) := by decide +kernel
theorem dX7_run_5 : decode cX7_run 5 = .ok (.invokestatic 232, 3) := by decide +kernel
theorem dX7_run_8 : decode cX7_run 8 = .ok (.aload_n 0, 1) := by decide +kernel
theorem dX7_run_9 : decode cX7_run 9 = .ok (.getfield 10, 3) := by decide +kernel
theorem dX7_run_12 : decode cX7_run 12 = .ok (.iload_n 1, 1) := by decide +kernel
theorem dX7_run_13 : decode cX7_run 13 = .ok (.aload_n 0, 1) := by decide +kernel
theorem dX7_run_14 : decode cX7_run 14 = .ok (.getfield 67, 3) := by decide +kernel
theorem dX7_run_17 : decode cX7_run 17 = .ok (.invokevirtual 235, 3) := by decide +kernel
theorem dX7_run_20 : decode cX7_run 20 = .ok (.istore_n 3, 1) := by decide +kernel
theorem dX7_run_21 : decode cX7_run 21 = .ok (.iload_n 3, 1) := by decide +kernel
theorem dX7_run_22 : decode cX7_run 22 = .ok (.iconst 2, 1) := by decide +kernel
theorem dX7_run_23 : decode cX7_run 23 = .ok (.if_icmp .ge 5, 3) := by decide +kernel
theorem dX7_run_26 : decode cX7_run 26 = .ok (.iconst 0, 1) := by decide +kernel
theorem dX7_run_27 : decode cX7_run 27 = .ok (.ireturn, 1) := by decide +kernel
theorem dX7_run_28 : decode cX7_run 28 = .ok (.aload_n 0, 1) := by decide +kernel
theorem dX7_run_29 : decode cX7_run 29 = .ok (.invokevirtual 167, 3) := by decide +kernel
theorem dX7_run_32 : decode cX7_run 32 = .ok (.iconst 0, 1) := by decide +kernel
theorem dX7_run_33 : decode cX7_run 33 = .ok (.istore 4, 2) := by decide +kernel
theorem dX7_run_35 : decode cX7_run 35 = .ok (.iload 4, 2) := by decide +kernel
theorem dX7_run_37 : decode cX7_run 37 = .ok (.iload_n 2, 1) := by decide +kernel
theorem dX7_run_38 : decode cX7_run 38 = .ok (.if_icmp .ge 35, 3) := by decide +kernel
theorem dX7_run_41 : decode cX7_run 41 = .ok (.aload_n 0, 1) := by decide +kernel
theorem dX7_run_42 : decode cX7_run 42 = .ok (.getfield 38, 3) := by decide +kernel
theorem dX7_run_45 : decode cX7_run 45 = .ok (.getfield 214, 3) := by decide +kernel
theorem dX7_run_48 : decode cX7_run 48 = .ok (.sipush 1500, 3) := by decide +kernel
theorem dX7_run_51 : decode cX7_run 51 = .ok (.if_icmp .ge 22, 3) := by decide +kernel
theorem dX7_run_54 : decode cX7_run 54 = .ok (.aload_n 0, 1) := by decide +kernel
theorem dX7_run_55 : decode cX7_run 55 = .ok (.aload_n 0, 1) := by decide +kernel
theorem dX7_run_56 : decode cX7_run 56 = .ok (.getfield 10, 3) := by decide +kernel
theorem dX7_run_59 : decode cX7_run 59 = .ok (.iload_n 3, 1) := by decide +kernel
theorem dX7_run_60 : decode cX7_run 60 = .ok (.invokevirtual 239, 3) := by decide +kernel
theorem dX7_run_63 : decode cX7_run 63 = .ok (.aload_n 0, 1) := by decide +kernel
theorem dX7_run_64 : decode cX7_run 64 = .ok (.invokevirtual 225, 3) := by decide +kernel
theorem dX7_run_67 : decode cX7_run 67 = .ok (.iinc 4 1, 3) := by decide +kernel
theorem dX7_run_70 : decode cX7_run 70 = .ok (.goto (-35), 3) := by decide +kernel
theorem dX7_run_73 : decode cX7_run 73 = .ok (.iload 4, 2) := by decide +kernel
theorem dX7_run_75 : decode cX7_run 75 = .ok (.ireturn, 1) := by decide +kernel
theorem dX7_note_0 : decode cX7_note 0 = .ok (.iload_n 1, 1) := by decide +kernel
theorem dX7_note_1 : decode cX7_note 1 = .ok (.ifCond .lt 14, 3) := by decide +kernel
theorem dX7_note_4 : decode cX7_note 4 = .ok (.iload_n 1, 1) := by decide +kernel
theorem dX7_note_5 : decode cX7_note 5 = .ok (.aload_n 0, 1) := by decide +kernel
theorem dX7_note_6 : decode cX7_note 6 = .ok (.getfield 38, 3) := by decide +kernel
theorem dX7_note_9 : decode cX7_note 9 = .ok (.getfield 214, 3) := by decide +kernel
theorem dX7_note_12 : decode cX7_note 12 = .ok (.if_icmp .lt 13, 3) := by decide +kernel
theorem dX7_note_15 : decode cX7_note 15 = .ok (.new 243, 3) := by decide +kernel
theorem dX7_note_18 : decode cX7_note 18 = .ok (.dup, 1) := by decide +kernel
theorem dX7_note_19 : decode cX7_note 19 = .ok (.ldc 245, 2) := by decide +kernel
theorem dX7_note_21 : decode cX7_note 21 = .ok (.invokespecial 247, 3) := by decide +kernel
theorem dX7_note_24 : decode cX7_note 24 = .ok (.athrow, 1) := by decide +kernel
theorem dX7_note_25 : decode cX7_note 25 = .ok (.iload_n 2, 1) := by decide +kernel
theorem dX7_note_26 : decode cX7_note 26 = .ok (.ifCond .lt 9, 3) := by decide +kernel
theorem dX7_note_29 : decode cX7_note 29 = .ok (.iload_n 2, 1) := by decide +kernel
theorem dX7_note_30 : decode cX7_note 30 = .ok (.bipush 17, 2) := by decide +kernel
theorem dX7_note_32 : decode cX7_note 32 = .ok (.if_icmp .lt 13, 3) := by decide +kernel
theorem dX7_note_35 : decode cX7_note 35 = .ok (.new 107, 3) := by decide +kernel
theorem dX7_note_38 : decode cX7_note 38 = .ok (.dup, 1) := by decide +kernel
theorem dX7_note_39 : decode cX7_note 39 = .ok (.ldc 146, 2) := by decide +kernel
theorem dX7_note_41 : decode cX7_note 41 = .ok (.invokespecial 111, 3) := by decide +kernel
theorem dX7_note_44 : decode cX7_note 44 = .ok (.athrow, 1) := by decide +kernel
theorem dX7_note_45 : decode cX7_note 45 = .ok (.aload_n 0, 1) := by decide +kernel
theorem dX7_note_46 : decode cX7_note 46 = .ok (.getfield 38, 3) := by decide +kernel
theorem dX7_note_49 : decode cX7_note 49 = .ok (.iload_n 1, 1) := by decide +kernel
theorem dX7_note_50 : decode cX7_note 50 = .ok (.iload_n 2, 1) := by decide +kernel
theorem dX7_note_51 : decode cX7_note 51 = .ok (.invokevirtual 248, 3) := by decide +kernel
theorem dX7_note_54 : decode cX7_note 54 = .ok (.ireturn, 1) := by decide +kernel
theorem dX7_share_0 : decode cX7_share 0 = .ok (.iload_n 2, 1) := by decide +kernel
theorem dX7_share_1 : decode cX7_share 1 = .ok (.invokestatic 252, 3) := by decide +kernel
theorem dX7_share_4 : decode cX7_share 4 = .ok (.iload_n 3, 1) := by decide +kernel
theorem dX7_share_5 : decode cX7_share 5 = .ok (.invokestatic 252, 3) := by decide +kernel
theorem dX7_share_8 : decode cX7_share 8 = .ok (.iconst 0, 1) := by decide +kernel
theorem dX7_share_9 : decode cX7_share 9 = .ok (.istore 5, 2) := by decide +kernel
theorem dX7_share_11 : decode cX7_share 11 = .ok (.iconst 0, 1) := by decide +kernel
theorem dX7_share_12 : decode cX7_share 12 = .ok (.istore 6, 2) := by decide +kernel
theorem dX7_share_14 : decode cX7_share 14 = .ok (.iload 6, 2) := by decide +kernel
theorem dX7_share_16 : decode cX7_share 16 = .ok (.aload_n 0, 1) := by decide +kernel
theorem dX7_share_17 : decode cX7_share 17 = .ok (.getfield 38, 3) := by decide +kernel
theorem dX7_share_20 : decode cX7_share 20 = .ok (.getfield 214, 3) := by decide +kernel
theorem dX7_share_23 : decode cX7_share 23 = .ok (.if_icmp .ge 86, 3) := by decide +kernel
theorem dX7_share_26 : decode cX7_share 26 = .ok (.aload_n 0, 1) := by decide +kernel
theorem dX7_share_27 : decode cX7_share 27 = .ok (.getfield 38, 3) := by decide +kernel
theorem dX7_share_30 : decode cX7_share 30 = .ok (.iload 6, 2) := by decide +kernel
theorem dX7_share_32 : decode cX7_share 32 = .ok (.iconst 0, 1) := by decide +kernel
theorem dX7_share_33 : decode cX7_share 33 = .ok (.invokevirtual 248, 3) := by decide +kernel
theorem dX7_share_36 : decode cX7_share 36 = .ok (.iload_n 1, 1) := by decide +kernel
theorem dX7_share_37 : decode cX7_share 37 = .ok (.if_icmp .ne 66, 3) := by decide +kernel
theorem dX7_share_40 : decode cX7_share 40 = .ok (.iload_n 2, 1) := by decide +kernel
theorem dX7_share_41 : decode cX7_share 41 = .ok (.iconst (-1), 1) := by decide +kernel
theorem dX7_share_42 : decode cX7_share 42 = .ok (.if_icmp .eq 18, 3) := by decide +kernel
theorem dX7_share_45 : decode cX7_share 45 = .ok (.aload_n 0, 1) := by decide +kernel
theorem dX7_share_46 : decode cX7_share 46 = .ok (.getfield 38, 3) := by decide +kernel
theorem dX7_share_49 : decode cX7_share 49 = .ok (.iload 6, 2) := by decide +kernel
theorem dX7_share_51 : decode cX7_share 51 = .ok (.bipush 17, 2) := by decide +kernel
theorem dX7_share_53 : decode cX7_share 53 = .ok (.invokevirtual 248, 3) := by decide +kernel
theorem dX7_share_56 : decode cX7_share 56 = .ok (.iload_n 2, 1) := by decide +kernel
theorem dX7_share_57 : decode cX7_share 57 = .ok (.if_icmp .ne 46, 3) := by decide +kernel
theorem dX7_share_60 : decode cX7_share 60 = .ok (.iload_n 3, 1) := by decide +kernel
theorem dX7_share_61 : decode cX7_share 61 = .ok (.iconst (-1), 1) := by decide +kernel
theorem dX7_share_62 : decode cX7_share 62 = .ok (.if_icmp .eq 18, 3) := by decide +kernel
theorem dX7_share_65 : decode cX7_share 65 = .ok (.aload_n 0, 1) := by decide +kernel
theorem dX7_share_66 : decode cX7_share 66 = .ok (.getfield 38, 3) := by decide +kernel
theorem dX7_share_69 : decode cX7_share 69 = .ok (.iload 6, 2) := by decide +kernel
theorem dX7_share_71 : decode cX7_share 71 = .ok (.bipush 18, 2) := by decide +kernel
theorem dX7_share_73 : decode cX7_share 73 = .ok (.invokevirtual 248, 3) := by decide +kernel
theorem dX7_share_76 : decode cX7_share 76 = .ok (.iload_n 3, 1) := by decide +kernel
theorem dX7_share_77 : decode cX7_share 77 = .ok (.if_icmp .ne 26, 3) := by decide +kernel
theorem dX7_share_80 : decode cX7_share 80 = .ok (.iload 4, 2) := by decide +kernel
theorem dX7_share_82 : decode cX7_share 82 = .ok (.ifCond .eq 18, 3) := by decide +kernel
theorem dX7_share_85 : decode cX7_share 85 = .ok (.aload_n 0, 1) := by decide +kernel
theorem dX7_share_86 : decode cX7_share 86 = .ok (.getfield 38, 3) := by decide +kernel
theorem dX7_share_89 : decode cX7_share 89 = .ok (.iload 6, 2) := by decide +kernel
theorem dX7_share_91 : decode cX7_share 91 = .ok (.bipush 14, 2) := by decide +kernel
theorem dX7_share_93 : decode cX7_share 93 = .ok (.invokevirtual 248, 3) := by decide +kernel
theorem dX7_share_96 : decode cX7_share 96 = .ok (.iconst 1, 1) := by decide +kernel
theorem dX7_share_97 : decode cX7_share 97 = .ok (.if_icmp .ne 6, 3) := by decide +kernel
theorem dX7_share_100 : decode cX7_share 100 = .ok (.iinc 5 1, 3) := by decide +kernel
theorem dX7_share_103 : decode cX7_share 103 = .ok (.iinc 6 1, 3) := by decide +kernel
theorem dX7_share_106 : decode cX7_share 106 = .ok (.goto (-92), 3) := by decide +kernel
theorem dX7_share_109 : decode cX7_share 109 = .ok (.iload 5, 2) := by decide +kernel
theorem dX7_share_111 : decode cX7_share 111 = .ok (.ireturn, 1) := by decide +kernel
theorem dX7_held_0 : decode cX7_held 0 = .ok (.iload_n 1, 1) := by decide +kernel
theorem dX7_held_1 : decode cX7_held 1 = .ok (.invokestatic 103, 3) := by decide +kernel
theorem dX7_held_4 : decode cX7_held 4 = .ok (.iload_n 2, 1) := by decide +kernel
theorem dX7_held_5 : decode cX7_held 5 = .ok (.invokestatic 161, 3) := by decide +kernel
theorem dX7_held_8 : decode cX7_held 8 = .ok (.aload_n 0, 1) := by decide +kernel
theorem dX7_held_9 : decode cX7_held 9 = .ok (.invokevirtual 167, 3) := by decide +kernel
theorem dX7_held_12 : decode cX7_held 12 = .ok (.aload_n 0, 1) := by decide +kernel
theorem dX7_held_13 : decode cX7_held 13 = .ok (.aload_n 0, 1) := by decide +kernel
theorem dX7_held_14 : decode cX7_held 14 = .ok (.getfield 10, 3) := by decide +kernel
theorem dX7_held_17 : decode cX7_held 17 = .ok (.iload_n 1, 1) := by decide +kernel
theorem dX7_held_18 : decode cX7_held 18 = .ok (.iload_n 2, 1) := by decide +kernel
theorem dX7_held_19 : decode cX7_held 19 = .ok (.invokevirtual 255, 3) := by decide +kernel
theorem dX7_held_22 : decode cX7_held 22 = .ok (.ireturn, 1) := by decide +kernel
theorem dX7_first_0 : decode cX7_first 0 = .ok (.iload_n 1, 1) := by decide +kernel
theorem dX7_first_1 : decode cX7_first 1 = .ok (.invokestatic 161, 3) := by decide +kernel
theorem dX7_first_4 : decode cX7_first 4 = .ok (.iload_n 2, 1) := by decide +kernel
theorem dX7_first_5 : decode cX7_first 5 = .ok (.ifCond .ne 13, 3) := by decide +kernel
theorem dX7_first_8 : decode cX7_first 8 = .ok (.aload_n 0, 1) := by decide +kernel
theorem dX7_first_9 : decode cX7_first 9 = .ok (.getfield 38, 3) := by decide +kernel
theorem dX7_first_12 : decode cX7_first 12 = .ok (.getfield 259, 3) := by decide +kernel
theorem dX7_first_15 : decode cX7_first 15 = .ok (.iload_n 1, 1) := by decide +kernel
theorem dX7_first_16 : decode cX7_first 16 = .ok (.iaload, 1) := by decide +kernel
theorem dX7_first_17 : decode cX7_first 17 = .ok (.ireturn, 1) := by decide +kernel
theorem dX7_first_18 : decode cX7_first 18 = .ok (.iload_n 2, 1) := by decide +kernel
theorem dX7_first_19 : decode cX7_first 19 = .ok (.iconst 1, 1) := by decide +kernel
theorem dX7_first_20 : decode cX7_first 20 = .ok (.if_icmp .ne 13, 3) := by decide +kernel
theorem dX7_first_23 : decode cX7_first 23 = .ok (.aload_n 0, 1) := by decide +kernel
theorem dX7_first_24 : decode cX7_first 24 = .ok (.getfield 38, 3) := by decide +kernel
theorem dX7_first_27 : decode cX7_first 27 = .ok (.getfield 262, 3) := by decide +kernel
theorem dX7_first_30 : decode cX7_first 30 = .ok (.iload_n 1, 1) := by decide +kernel
theorem dX7_first_31 : decode cX7_first 31 = .ok (.iaload, 1) := by decide +kernel
theorem dX7_first_32 : decode cX7_first 32 = .ok (.ireturn, 1) := by decide +kernel
theorem dX7_first_33 : decode cX7_first 33 = .ok (.new 107, 3) := by decide +kernel
theorem dX7_first_36 : decode cX7_first 36 = .ok (.dup, 1) := by decide +kernel
theorem dX7_first_37 : decode cX7_first 37 = .ok (.ldc 146, 2) := by decide +kernel
theorem dX7_first_39 : decode cX7_first 39 = .ok (.invokespecial 111, 3) := by decide +kernel
theorem dX7_first_42 : decode cX7_first 42 = .ok (.athrow, 1) := by decide +kernel
theorem dX7_back_0 : decode cX7_back 0 = .ok (.aload_n 0, 1) := by decide +kernel
theorem dX7_back_1 : decode cX7_back 1 = .ok (.iload_n 1, 1) := by decide +kernel
theorem dX7_back_2 : decode cX7_back 2 = .ok (.invokevirtual 121, 3) := by decide +kernel
theorem dX7_back_5 : decode cX7_back 5 = .ok (.iload_n 2, 1) := by decide +kernel
theorem dX7_back_6 : decode cX7_back 6 = .ok (.invokestatic 161, 3) := by decide +kernel
theorem dX7_back_9 : decode cX7_back 9 = .ok (.iconst 0, 1) := by decide +kernel
theorem dX7_back_10 : decode cX7_back 10 = .ok (.istore 4, 2) := by decide +kernel
theorem dX7_back_12 : decode cX7_back 12 = .ok (.iconst 0, 1) := by decide +kernel
theorem dX7_back_13 : decode cX7_back 13 = .ok (.istore 5, 2) := by decide +kernel
theorem dX7_back_15 : decode cX7_back 15 = .ok (.iload 5, 2) := by decide +kernel
theorem dX7_back_17 : decode cX7_back 17 = .ok (.aload_n 0, 1) := by decide +kernel
theorem dX7_back_18 : decode cX7_back 18 = .ok (.getfield 38, 3) := by decide +kernel
theorem dX7_back_21 : decode cX7_back 21 = .ok (.getfield 214, 3) := by decide +kernel
theorem dX7_back_24 : decode cX7_back 24 = .ok (.if_icmp .ge 35, 3) := by decide +kernel
theorem dX7_back_27 : decode cX7_back 27 = .ok (.aload_n 0, 1) := by decide +kernel
theorem dX7_back_28 : decode cX7_back 28 = .ok (.getfield 38, 3) := by decide +kernel
theorem dX7_back_31 : decode cX7_back 31 = .ok (.iload 5, 2) := by decide +kernel
theorem dX7_back_33 : decode cX7_back 33 = .ok (.iload_n 1, 1) := by decide +kernel
theorem dX7_back_34 : decode cX7_back 34 = .ok (.iload_n 2, 1) := by decide +kernel
theorem dX7_back_35 : decode cX7_back 35 = .ok (.invokevirtual 265, 3) := by decide +kernel
theorem dX7_back_38 : decode cX7_back 38 = .ok (.ifCond .eq 15, 3) := by decide +kernel
theorem dX7_back_41 : decode cX7_back 41 = .ok (.iload 4, 2) := by decide +kernel
theorem dX7_back_43 : decode cX7_back 43 = .ok (.iload_n 3, 1) := by decide +kernel
theorem dX7_back_44 : decode cX7_back 44 = .ok (.if_icmp .ne 6, 3) := by decide +kernel
theorem dX7_back_47 : decode cX7_back 47 = .ok (.iload 5, 2) := by decide +kernel
theorem dX7_back_49 : decode cX7_back 49 = .ok (.ireturn, 1) := by decide +kernel
theorem dX7_back_50 : decode cX7_back 50 = .ok (.iinc 4 1, 3) := by decide +kernel
theorem dX7_back_53 : decode cX7_back 53 = .ok (.iinc 5 1, 3) := by decide +kernel
theorem dX7_back_56 : decode cX7_back 56 = .ok (.goto (-41), 3) := by decide +kernel
theorem dX7_back_59 : decode cX7_back 59 = .ok (.iload_n 3, 1) := by decide +kernel
theorem dX7_back_60 : decode cX7_back 60 = .ok (.iconst (-1), 1) := by decide +kernel
theorem dX7_back_61 : decode cX7_back 61 = .ok (.if_icmp .ne 8, 3) := by decide +kernel
theorem dX7_back_64 : decode cX7_back 64 = .ok (.iload 4, 2) := by decide +kernel
theorem dX7_back_66 : decode cX7_back 66 = .ok (.goto 4, 3) := by decide +kernel
theorem dX7_back_69 : decode cX7_back 69 = .ok (.iconst (-1), 1) := by decide +kernel
theorem dX7_back_70 : decode cX7_back 70 = .ok (.ireturn, 1) := by decide +kernel
theorem dX7_uses_0 : decode cX7_uses 0 = .ok (.iload_n 1, 1) := by decide +kernel
theorem dX7_uses_1 : decode cX7_uses 1 = .ok (.invokestatic 103, 3) := by decide +kernel
theorem dX7_uses_4 : decode cX7_uses 4 = .ok (.iload_n 2, 1) := by decide +kernel
theorem dX7_uses_5 : decode cX7_uses 5 = .ok (.invokestatic 151, 3) := by decide +kernel
theorem dX7_uses_8 : decode cX7_uses 8 = .ok (.aload_n 0, 1) := by decide +kernel
theorem dX7_uses_9 : decode cX7_uses 9 = .ok (.getfield 10, 3) := by decide +kernel
theorem dX7_uses_12 : decode cX7_uses 12 = .ok (.getfield 269, 3) := by decide +kernel
theorem dX7_uses_15 : decode cX7_uses 15 = .ok (.iload_n 1, 1) := by decide +kernel
theorem dX7_uses_16 : decode cX7_uses 16 = .ok (.bipush 16, 2) := by decide +kernel
theorem dX7_uses_18 : decode cX7_uses 18 = .ok (.imul, 1) := by decide +kernel
theorem dX7_uses_19 : decode cX7_uses 19 = .ok (.iload_n 2, 1) := by decide +kernel
theorem dX7_uses_20 : decode cX7_uses 20 = .ok (.iadd, 1) := by decide +kernel
theorem dX7_uses_21 : decode cX7_uses 21 = .ok (.iaload, 1) := by decide +kernel
theorem dX7_uses_22 : decode cX7_uses 22 = .ok (.ireturn, 1) := by decide +kernel
theorem dX7_seen_0 : decode cX7_seen 0 = .ok (.iload_n 1, 1) := by decide +kernel
theorem dX7_seen_1 : decode cX7_seen 1 = .ok (.invokestatic 103, 3) := by decide +kernel
theorem dX7_seen_4 : decode cX7_seen 4 = .ok (.iload_n 2, 1) := by decide +kernel
theorem dX7_seen_5 : decode cX7_seen 5 = .ok (.invokestatic 151, 3) := by decide +kernel
theorem dX7_seen_8 : decode cX7_seen 8 = .ok (.aload_n 0, 1) := by decide +kernel
theorem dX7_seen_9 : decode cX7_seen 9 = .ok (.getfield 10, 3) := by decide +kernel
theorem dX7_seen_12 : decode cX7_seen 12 = .ok (.iload_n 1, 1) := by decide +kernel
theorem dX7_seen_13 : decode cX7_seen 13 = .ok (.iload_n 2, 1) := by decide +kernel
theorem dX7_seen_14 : decode cX7_seen 14 = .ok (.invokevirtual 272, 3) := by decide +kernel
theorem dX7_seen_17 : decode cX7_seen 17 = .ok (.ireturn, 1) := by decide +kernel
theorem dX7_film_0 : decode cX7_film 0 = .ok (.aload_n 0, 1) := by decide +kernel
theorem dX7_film_1 : decode cX7_film 1 = .ok (.getfield 83, 3) := by decide +kernel
theorem dX7_film_4 : decode cX7_film 4 = .ok (.iconst 3, 1) := by decide +kernel
theorem dX7_film_5 : decode cX7_film 5 = .ok (.if_icmp .lt 5, 3) := by decide +kernel
theorem dX7_film_8 : decode cX7_film 8 = .ok (.iconst (-1), 1) := by decide +kernel
theorem dX7_film_9 : decode cX7_film 9 = .ok (.ireturn, 1) := by decide +kernel
theorem dX7_film_10 : decode cX7_film 10 = .ok (.aload_n 0, 1) := by decide +kernel
theorem dX7_film_11 : decode cX7_film 11 = .ok (.getfield 86, 3) := by decide +kernel
theorem dX7_film_14 : decode cX7_film 14 = .ok (.iconst (-1), 1) := by decide +kernel
theorem dX7_film_15 : decode cX7_film 15 = .ok (.if_icmp .eq 6, 3) := by decide +kernel
theorem dX7_film_18 : decode cX7_film 18 = .ok (.bipush (-2), 2) := by decide +kernel
theorem dX7_film_20 : decode cX7_film 20 = .ok (.ireturn, 1) := by decide +kernel
theorem dX7_film_21 : decode cX7_film 21 = .ok (.aload_n 0, 1) := by decide +kernel
theorem dX7_film_22 : decode cX7_film 22 = .ok (.getfield 25, 3) := by decide +kernel
theorem dX7_film_25 : decode cX7_film 25 = .ok (.aload_n 0, 1) := by decide +kernel
theorem dX7_film_26 : decode cX7_film 26 = .ok (.getfield 83, 3) := by decide +kernel
theorem dX7_film_29 : decode cX7_film 29 = .ok (.aaload, 1) := by decide +kernel
theorem dX7_film_30 : decode cX7_film 30 = .ok (.aload_n 0, 1) := by decide +kernel
theorem dX7_film_31 : decode cX7_film 31 = .ok (.getfield 10, 3) := by decide +kernel
theorem dX7_film_34 : decode cX7_film 34 = .ok (.aload_n 0, 1) := by decide +kernel
theorem dX7_film_35 : decode cX7_film 35 = .ok (.getfield 38, 3) := by decide +kernel
theorem dX7_film_38 : decode cX7_film 38 = .ok (.getfield 214, 3) := by decide +kernel
theorem dX7_film_41 : decode cX7_film 41 = .ok (.invokevirtual 275, 3) := by decide +kernel
theorem dX7_film_44 : decode cX7_film 44 = .ok (.aload_n 0, 1) := by decide +kernel
theorem dX7_film_45 : decode cX7_film 45 = .ok (.aload_n 0, 1) := by decide +kernel
theorem dX7_film_46 : decode cX7_film 46 = .ok (.getfield 83, 3) := by decide +kernel
theorem dX7_film_49 : decode cX7_film 49 = .ok (.putfield 86, 3) := by decide +kernel
theorem dX7_film_52 : decode cX7_film 52 = .ok (.aload_n 0, 1) := by decide +kernel
theorem dX7_film_53 : decode cX7_film 53 = .ok (.dup, 1) := by decide +kernel
theorem dX7_film_54 : decode cX7_film 54 = .ok (.getfield 83, 3) := by decide +kernel
theorem dX7_film_57 : decode cX7_film 57 = .ok (.iconst 1, 1) := by decide +kernel
theorem dX7_film_58 : decode cX7_film 58 = .ok (.iadd, 1) := by decide +kernel
theorem dX7_film_59 : decode cX7_film 59 = .ok (.putfield 83, 3) := by decide +kernel
theorem dX7_film_62 : decode cX7_film 62 = .ok (.aload_n 0, 1) := by decide +kernel
theorem dX7_film_63 : decode cX7_film 63 = .ok (.getfield 86, 3) := by decide +kernel
theorem dX7_film_66 : decode cX7_film 66 = .ok (.ireturn, 1) := by decide +kernel
theorem dX7_end_0 : decode cX7_end 0 = .ok (.aload_n 0, 1) := by decide +kernel
theorem dX7_end_1 : decode cX7_end 1 = .ok (.getfield 86, 3) := by decide +kernel
theorem dX7_end_4 : decode cX7_end 4 = .ok (.iconst (-1), 1) := by decide +kernel
theorem dX7_end_5 : decode cX7_end 5 = .ok (.if_icmp .ne 5, 3) := by decide +kernel
theorem dX7_end_8 : decode cX7_end 8 = .ok (.iconst (-1), 1) := by decide +kernel
theorem dX7_end_9 : decode cX7_end 9 = .ok (.ireturn, 1) := by decide +kernel
theorem dX7_end_10 : decode cX7_end 10 = .ok (.aload_n 0, 1) := by decide +kernel
theorem dX7_end_11 : decode cX7_end 11 = .ok (.getfield 25, 3) := by decide +kernel
theorem dX7_end_14 : decode cX7_end 14 = .ok (.aload_n 0, 1) := by decide +kernel
theorem dX7_end_15 : decode cX7_end 15 = .ok (.getfield 86, 3) := by decide +kernel
theorem dX7_end_18 : decode cX7_end 18 = .ok (.aaload, 1) := by decide +kernel
theorem dX7_end_19 : decode cX7_end 19 = .ok (.getfield 277, 3) := by decide +kernel
theorem dX7_end_22 : decode cX7_end 22 = .ok (.istore_n 1, 1) := by decide +kernel
theorem dX7_end_23 : decode cX7_end 23 = .ok (.aload_n 0, 1) := by decide +kernel
theorem dX7_end_24 : decode cX7_end 24 = .ok (.invokevirtual 100, 3) := by decide +kernel
theorem dX7_end_27 : decode cX7_end 27 = .ok (.iload_n 1, 1) := by decide +kernel
theorem dX7_end_28 : decode cX7_end 28 = .ok (.ireturn, 1) := by decide +kernel
theorem dX7_gap_0 : decode cX7_gap 0 = .ok (.aload_n 0, 1) := by decide +kernel
theorem dX7_gap_1 : decode cX7_gap 1 = .ok (.iload_n 1, 1) := by decide +kernel
theorem dX7_gap_2 : decode cX7_gap 2 = .ok (.invokevirtual 278, 3) := by decide +kernel
theorem dX7_gap_5 : decode cX7_gap 5 = .ok (.iload_n 2, 1) := by decide +kernel
theorem dX7_gap_6 : decode cX7_gap 6 = .ok (.ifCond .lt 16, 3) := by decide +kernel
theorem dX7_gap_9 : decode cX7_gap 9 = .ok (.iload_n 2, 1) := by decide +kernel
theorem dX7_gap_10 : decode cX7_gap 10 = .ok (.aload_n 0, 1) := by decide +kernel
theorem dX7_gap_11 : decode cX7_gap 11 = .ok (.getfield 25, 3) := by decide +kernel
theorem dX7_gap_14 : decode cX7_gap 14 = .ok (.iload_n 1, 1) := by decide +kernel
theorem dX7_gap_15 : decode cX7_gap 15 = .ok (.aaload, 1) := by decide +kernel
theorem dX7_gap_16 : decode cX7_gap 16 = .ok (.getfield 277, 3) := by decide +kernel
theorem dX7_gap_19 : decode cX7_gap 19 = .ok (.if_icmp .lt 14, 3) := by decide +kernel
theorem dX7_gap_22 : decode cX7_gap 22 = .ok (.new 107, 3) := by decide +kernel
theorem dX7_gap_25 : decode cX7_gap 25 = .ok (.dup, 1) := by decide +kernel
theorem dX7_gap_26 : decode cX7_gap 26 = .ok (.ldc_w 281, 3) := by decide +kernel
theorem dX7_gap_29 : decode cX7_gap 29 = .ok (.invokespecial 111, 3) := by decide +kernel
theorem dX7_gap_32 : decode cX7_gap 32 = .ok (.athrow, 1) := by decide +kernel
theorem dX7_gap_33 : decode cX7_gap 33 = .ok (.aload_n 0, 1) := by decide +kernel
theorem dX7_gap_34 : decode cX7_gap 34 = .ok (.getfield 25, 3) := by decide +kernel
theorem dX7_gap_37 : decode cX7_gap 37 = .ok (.iload_n 1, 1) := by decide +kernel
theorem dX7_gap_38 : decode cX7_gap 38 = .ok (.aaload, 1) := by decide +kernel
theorem dX7_gap_39 : decode cX7_gap 39 = .ok (.getfield 283, 3) := by decide +kernel
theorem dX7_gap_42 : decode cX7_gap 42 = .ok (.iload_n 2, 1) := by decide +kernel
theorem dX7_gap_43 : decode cX7_gap 43 = .ok (.baload, 1) := by decide +kernel
theorem dX7_gap_44 : decode cX7_gap 44 = .ok (.ifCond .eq 5, 3) := by decide +kernel
theorem dX7_gap_47 : decode cX7_gap 47 = .ok (.iconst 0, 1) := by decide +kernel
theorem dX7_gap_48 : decode cX7_gap 48 = .ok (.ireturn, 1) := by decide +kernel
theorem dX7_gap_49 : decode cX7_gap 49 = .ok (.aload_n 0, 1) := by decide +kernel
theorem dX7_gap_50 : decode cX7_gap 50 = .ok (.getfield 25, 3) := by decide +kernel
theorem dX7_gap_53 : decode cX7_gap 53 = .ok (.iload_n 1, 1) := by decide +kernel
theorem dX7_gap_54 : decode cX7_gap 54 = .ok (.aaload, 1) := by decide +kernel
theorem dX7_gap_55 : decode cX7_gap 55 = .ok (.getfield 283, 3) := by decide +kernel
theorem dX7_gap_58 : decode cX7_gap 58 = .ok (.iload_n 2, 1) := by decide +kernel
theorem dX7_gap_59 : decode cX7_gap 59 = .ok (.iconst 1, 1) := by decide +kernel
theorem dX7_gap_60 : decode cX7_gap 60 = .ok (.bastore, 1) := by decide +kernel
theorem dX7_gap_61 : decode cX7_gap 61 = .ok (.iconst 1, 1) := by decide +kernel
theorem dX7_gap_62 : decode cX7_gap 62 = .ok (.ireturn, 1) := by decide +kernel
theorem dX7_fits_0 : decode cX7_fits 0 = .ok (.aload_n 0, 1) := by decide +kernel
theorem dX7_fits_1 : decode cX7_fits 1 = .ok (.iload_n 1, 1) := by decide +kernel
theorem dX7_fits_2 : decode cX7_fits 2 = .ok (.invokevirtual 278, 3) := by decide +kernel
theorem dX7_fits_5 : decode cX7_fits 5 = .ok (.aload_n 0, 1) := by decide +kernel
theorem dX7_fits_6 : decode cX7_fits 6 = .ok (.iload_n 2, 1) := by decide +kernel
theorem dX7_fits_7 : decode cX7_fits 7 = .ok (.invokevirtual 202, 3) := by decide +kernel
theorem dX7_fits_10 : decode cX7_fits 10 = .ok (.aload_n 0, 1) := by decide +kernel
theorem dX7_fits_11 : decode cX7_fits 11 = .ok (.aload_n 0, 1) := by decide +kernel
theorem dX7_fits_12 : decode cX7_fits 12 = .ok (.getfield 25, 3) := by decide +kernel
theorem dX7_fits_15 : decode cX7_fits 15 = .ok (.iload_n 1, 1) := by decide +kernel
theorem dX7_fits_16 : decode cX7_fits 16 = .ok (.aaload, 1) := by decide +kernel
theorem dX7_fits_17 : decode cX7_fits 17 = .ok (.iload_n 2, 1) := by decide +kernel
theorem dX7_fits_18 : decode cX7_fits 18 = .ok (.invokevirtual 287, 3) := by decide +kernel
theorem dX7_fits_21 : decode cX7_fits 21 = .ok (.ireturn, 1) := by decide +kernel
theorem dX7_read_0 : decode cX7_read 0 = .ok (.iconst 0, 1) := by decide +kernel
theorem dX7_read_1 : decode cX7_read 1 = .ok (.istore_n 1, 1) := by decide +kernel
theorem dX7_read_2 : decode cX7_read 2 = .ok (.iconst (-1), 1) := by decide +kernel
theorem dX7_read_3 : decode cX7_read 3 = .ok (.istore_n 2, 1) := by decide +kernel
theorem dX7_read_4 : decode cX7_read 4 = .ok (.iload_n 2, 1) := by decide +kernel
theorem dX7_read_5 : decode cX7_read 5 = .ok (.aload_n 0, 1) := by decide +kernel
theorem dX7_read_6 : decode cX7_read 6 = .ok (.getfield 80, 3) := by decide +kernel
theorem dX7_read_9 : decode cX7_read 9 = .ok (.if_icmp .ge 84, 3) := by decide +kernel
theorem dX7_read_12 : decode cX7_read 12 = .ok (.iconst 1, 1) := by decide +kernel
theorem dX7_read_13 : decode cX7_read 13 = .ok (.istore_n 3, 1) := by decide +kernel
theorem dX7_read_14 : decode cX7_read 14 = .ok (.iconst 0, 1) := by decide +kernel
theorem dX7_read_15 : decode cX7_read 15 = .ok (.istore 4, 2) := by decide +kernel
theorem dX7_read_17 : decode cX7_read 17 = .ok (.iload 4, 2) := by decide +kernel
theorem dX7_read_19 : decode cX7_read 19 = .ok (.aload_n 0, 1) := by decide +kernel
theorem dX7_read_20 : decode cX7_read 20 = .ok (.getfield 83, 3) := by decide +kernel
theorem dX7_read_23 : decode cX7_read 23 = .ok (.if_icmp .ge 44, 3) := by decide +kernel
theorem dX7_read_26 : decode cX7_read 26 = .ok (.iload_n 3, 1) := by decide +kernel
theorem dX7_read_27 : decode cX7_read 27 = .ok (.ifCond .eq 40, 3) := by decide +kernel
theorem dX7_read_30 : decode cX7_read 30 = .ok (.aload_n 0, 1) := by decide +kernel
theorem dX7_read_31 : decode cX7_read 31 = .ok (.aload_n 0, 1) := by decide +kernel
theorem dX7_read_32 : decode cX7_read 32 = .ok (.getfield 25, 3) := by decide +kernel
theorem dX7_read_35 : decode cX7_read 35 = .ok (.iload 4, 2) := by decide +kernel
theorem dX7_read_37 : decode cX7_read 37 = .ok (.aaload, 1) := by decide +kernel
theorem dX7_read_38 : decode cX7_read 38 = .ok (.iload_n 2, 1) := by decide +kernel
theorem dX7_read_39 : decode cX7_read 39 = .ok (.invokevirtual 287, 3) := by decide +kernel
theorem dX7_read_42 : decode cX7_read 42 = .ok (.aload_n 0, 1) := by decide +kernel
theorem dX7_read_43 : decode cX7_read 43 = .ok (.getfield 25, 3) := by decide +kernel
theorem dX7_read_46 : decode cX7_read 46 = .ok (.iload 4, 2) := by decide +kernel
theorem dX7_read_48 : decode cX7_read 48 = .ok (.aaload, 1) := by decide +kernel
theorem dX7_read_49 : decode cX7_read 49 = .ok (.getfield 277, 3) := by decide +kernel
theorem dX7_read_52 : decode cX7_read 52 = .ok (.if_icmp .ne 7, 3) := by decide +kernel
theorem dX7_read_55 : decode cX7_read 55 = .ok (.iconst 1, 1) := by decide +kernel
theorem dX7_read_56 : decode cX7_read 56 = .ok (.goto 4, 3) := by decide +kernel
theorem dX7_read_59 : decode cX7_read 59 = .ok (.iconst 0, 1) := by decide +kernel
theorem dX7_read_60 : decode cX7_read 60 = .ok (.istore_n 3, 1) := by decide +kernel
theorem dX7_read_61 : decode cX7_read 61 = .ok (.iinc 4 1, 3) := by decide +kernel
theorem dX7_read_64 : decode cX7_read 64 = .ok (.goto (-47), 3) := by decide +kernel
theorem dX7_read_67 : decode cX7_read 67 = .ok (.iload_n 3, 1) := by decide +kernel
theorem dX7_read_68 : decode cX7_read 68 = .ok (.ifCond .eq 19, 3) := by decide +kernel
theorem dX7_read_71 : decode cX7_read 71 = .ok (.iload_n 1, 1) := by decide +kernel
theorem dX7_read_72 : decode cX7_read 72 = .ok (.iconst 1, 1) := by decide +kernel
theorem dX7_read_73 : decode cX7_read 73 = .ok (.iload_n 2, 1) := by decide +kernel
theorem dX7_read_74 : decode cX7_read 74 = .ok (.iconst (-1), 1) := by decide +kernel
theorem dX7_read_75 : decode cX7_read 75 = .ok (.if_icmp .ne 8, 3) := by decide +kernel
theorem dX7_read_78 : decode cX7_read 78 = .ok (.bipush 6, 2) := by decide +kernel
theorem dX7_read_80 : decode cX7_read 80 = .ok (.goto 4, 3) := by decide +kernel
theorem dX7_read_83 : decode cX7_read 83 = .ok (.iload_n 2, 1) := by decide +kernel
theorem dX7_read_84 : decode cX7_read 84 = .ok (.ishl, 1) := by decide +kernel
theorem dX7_read_85 : decode cX7_read 85 = .ok (.ior, 1) := by decide +kernel
theorem dX7_read_86 : decode cX7_read 86 = .ok (.istore_n 1, 1) := by decide +kernel
theorem dX7_read_87 : decode cX7_read 87 = .ok (.iinc 2 1, 3) := by decide +kernel
theorem dX7_read_90 : decode cX7_read 90 = .ok (.goto (-86), 3) := by decide +kernel
theorem dX7_read_93 : decode cX7_read 93 = .ok (.iload_n 1, 1) := by decide +kernel
theorem dX7_read_94 : decode cX7_read 94 = .ok (.ireturn, 1) := by decide +kernel
theorem dX7_trial_0 : decode cX7_trial 0 = .ok (.aload_n 0, 1) := by decide +kernel
theorem dX7_trial_1 : decode cX7_trial 1 = .ok (.iload_n 3, 1) := by decide +kernel
theorem dX7_trial_2 : decode cX7_trial 2 = .ok (.invokevirtual 202, 3) := by decide +kernel
theorem dX7_trial_5 : decode cX7_trial 5 = .ok (.iload_n 1, 1) := by decide +kernel
theorem dX7_trial_6 : decode cX7_trial 6 = .ok (.iload_n 2, 1) := by decide +kernel
theorem dX7_trial_7 : decode cX7_trial 7 = .ok (.iload 4, 2) := by decide +kernel
theorem dX7_trial_9 : decode cX7_trial 9 = .ok (.invokestatic 291, 3) := by decide +kernel
theorem dX7_trial_12 : decode cX7_trial 12 = .ok (.aload_n 0, 1) := by decide +kernel
theorem dX7_trial_13 : decode cX7_trial 13 = .ok (.getfield 16, 3) := by decide +kernel
theorem dX7_trial_16 : decode cX7_trial 16 = .ok (.aload_n 0, 1) := by decide +kernel
theorem dX7_trial_17 : decode cX7_trial 17 = .ok (.getfield 10, 3) := by decide +kernel
theorem dX7_trial_20 : decode cX7_trial 20 = .ok (.invokevirtual 295, 3) := by decide +kernel
theorem dX7_trial_23 : decode cX7_trial 23 = .ok (.aload_n 0, 1) := by decide +kernel
theorem dX7_trial_24 : decode cX7_trial 24 = .ok (.getfield 52, 3) := by decide +kernel
theorem dX7_trial_27 : decode cX7_trial 27 = .ok (.aload_n 0, 1) := by decide +kernel
theorem dX7_trial_28 : decode cX7_trial 28 = .ok (.iload_n 3, 1) := by decide +kernel
theorem dX7_trial_29 : decode cX7_trial 29 = .ok (.invokevirtual 299, 3) := by decide +kernel
theorem dX7_trial_32 : decode cX7_trial 32 = .ok (.iconst (-1), 1) := by decide +kernel
theorem dX7_trial_33 : decode cX7_trial 33 = .ok (.invokevirtual 303, 3) := by decide +kernel
theorem dX7_trial_36 : decode cX7_trial 36 = .ok (.aload_n 0, 1) := by decide +kernel
theorem dX7_trial_37 : decode cX7_trial 37 = .ok (.iload_n 1, 1) := by decide +kernel
theorem dX7_trial_38 : decode cX7_trial 38 = .ok (.iload_n 2, 1) := by decide +kernel
theorem dX7_trial_39 : decode cX7_trial 39 = .ok (.iload 4, 2) := by decide +kernel
theorem dX7_trial_41 : decode cX7_trial 41 = .ok (.invokevirtual 307, 3) := by decide +kernel
theorem dX7_trial_44 : decode cX7_trial 44 = .ok (.ireturn, 1) := by decide +kernel
theorem dX7_fewest_0 : decode cX7_fewest 0 = .ok (.iload_n 1, 1) := by decide +kernel
theorem dX7_fewest_1 : decode cX7_fewest 1 = .ok (.iload_n 2, 1) := by decide +kernel
theorem dX7_fewest_2 : decode cX7_fewest 2 = .ok (.iload 4, 2) := by decide +kernel
theorem dX7_fewest_4 : decode cX7_fewest 4 = .ok (.invokestatic 291, 3) := by decide +kernel
theorem dX7_fewest_7 : decode cX7_fewest 7 = .ok (.iload_n 3, 1) := by decide +kernel
theorem dX7_fewest_8 : decode cX7_fewest 8 = .ok (.iconst 1, 1) := by decide +kernel
theorem dX7_fewest_9 : decode cX7_fewest 9 = .ok (.if_icmp .lt 9, 3) := by decide +kernel
theorem dX7_fewest_12 : decode cX7_fewest 12 = .ok (.iload_n 3, 1) := by decide +kernel
theorem dX7_fewest_13 : decode cX7_fewest 13 = .ok (.bipush 100, 2) := by decide +kernel
theorem dX7_fewest_15 : decode cX7_fewest 15 = .ok (.if_icmp .le 14, 3) := by decide +kernel
theorem dX7_fewest_18 : decode cX7_fewest 18 = .ok (.new 107, 3) := by decide +kernel
theorem dX7_fewest_21 : decode cX7_fewest 21 = .ok (.dup, 1) := by decide +kernel
theorem dX7_fewest_22 : decode cX7_fewest 22 = .ok (.ldc_w 310, 3) := by decide +kernel
theorem dX7_fewest_25 : decode cX7_fewest 25 = .ok (.invokespecial 111, 3) := by decide +kernel
theorem dX7_fewest_28 : decode cX7_fewest 28 = .ok (.athrow, 1) := by decide +kernel
theorem dX7_fewest_29 : decode cX7_fewest 29 = .ok (.aload_n 0, 1) := by decide +kernel
theorem dX7_fewest_30 : decode cX7_fewest 30 = .ok (.invokevirtual 167, 3) := by decide +kernel
theorem dX7_fewest_33 : decode cX7_fewest 33 = .ok (.aload_n 0, 1) := by decide +kernel
theorem dX7_fewest_34 : decode cX7_fewest 34 = .ok (.getfield 10, 3) := by decide +kernel
theorem dX7_fewest_37 : decode cX7_fewest 37 = .ok (.iload_n 1, 1) := by decide +kernel
theorem dX7_fewest_38 : decode cX7_fewest 38 = .ok (.aload_n 0, 1) := by decide +kernel
theorem dX7_fewest_39 : decode cX7_fewest 39 = .ok (.getfield 67, 3) := by decide +kernel
theorem dX7_fewest_42 : decode cX7_fewest 42 = .ok (.invokevirtual 235, 3) := by decide +kernel
theorem dX7_fewest_45 : decode cX7_fewest 45 = .ok (.istore 5, 2) := by decide +kernel
theorem dX7_fewest_47 : decode cX7_fewest 47 = .ok (.iconst 2, 1) := by decide +kernel
theorem dX7_fewest_48 : decode cX7_fewest 48 = .ok (.istore 6, 2) := by decide +kernel
theorem dX7_fewest_50 : decode cX7_fewest 50 = .ok (.iload 6, 2) := by decide +kernel
theorem dX7_fewest_52 : decode cX7_fewest 52 = .ok (.iload 5, 2) := by decide +kernel
theorem dX7_fewest_54 : decode cX7_fewest 54 = .ok (.if_icmp .gt 51, 3) := by decide +kernel
theorem dX7_fewest_57 : decode cX7_fewest 57 = .ok (.aload_n 0, 1) := by decide +kernel
theorem dX7_fewest_58 : decode cX7_fewest 58 = .ok (.getfield 16, 3) := by decide +kernel
theorem dX7_fewest_61 : decode cX7_fewest 61 = .ok (.aload_n 0, 1) := by decide +kernel
theorem dX7_fewest_62 : decode cX7_fewest 62 = .ok (.getfield 10, 3) := by decide +kernel
theorem dX7_fewest_65 : decode cX7_fewest 65 = .ok (.invokevirtual 295, 3) := by decide +kernel
theorem dX7_fewest_68 : decode cX7_fewest 68 = .ok (.aload_n 0, 1) := by decide +kernel
theorem dX7_fewest_69 : decode cX7_fewest 69 = .ok (.getfield 16, 3) := by decide +kernel
theorem dX7_fewest_72 : decode cX7_fewest 72 = .ok (.iload_n 1, 1) := by decide +kernel
theorem dX7_fewest_73 : decode cX7_fewest 73 = .ok (.iload 6, 2) := by decide +kernel
theorem dX7_fewest_75 : decode cX7_fewest 75 = .ok (.invokevirtual 312, 3) := by decide +kernel
theorem dX7_fewest_78 : decode cX7_fewest 78 = .ok (.aload_n 0, 1) := by decide +kernel
theorem dX7_fewest_79 : decode cX7_fewest 79 = .ok (.iload_n 1, 1) := by decide +kernel
theorem dX7_fewest_80 : decode cX7_fewest 80 = .ok (.iload_n 2, 1) := by decide +kernel
theorem dX7_fewest_81 : decode cX7_fewest 81 = .ok (.iload 4, 2) := by decide +kernel
theorem dX7_fewest_83 : decode cX7_fewest 83 = .ok (.invokevirtual 307, 3) := by decide +kernel
theorem dX7_fewest_86 : decode cX7_fewest 86 = .ok (.bipush 100, 2) := by decide +kernel
theorem dX7_fewest_88 : decode cX7_fewest 88 = .ok (.imul, 1) := by decide +kernel
theorem dX7_fewest_89 : decode cX7_fewest 89 = .ok (.iload 6, 2) := by decide +kernel
theorem dX7_fewest_91 : decode cX7_fewest 91 = .ok (.iload_n 3, 1) := by decide +kernel
theorem dX7_fewest_92 : decode cX7_fewest 92 = .ok (.imul, 1) := by decide +kernel
theorem dX7_fewest_93 : decode cX7_fewest 93 = .ok (.if_icmp .lt 6, 3) := by decide +kernel
theorem dX7_fewest_96 : decode cX7_fewest 96 = .ok (.iload 6, 2) := by decide +kernel
theorem dX7_fewest_98 : decode cX7_fewest 98 = .ok (.ireturn, 1) := by decide +kernel
theorem dX7_fewest_99 : decode cX7_fewest 99 = .ok (.iinc 6 1, 3) := by decide +kernel
theorem dX7_fewest_102 : decode cX7_fewest 102 = .ok (.goto (-52), 3) := by decide +kernel
theorem dX7_fewest_105 : decode cX7_fewest 105 = .ok (.iconst (-1), 1) := by decide +kernel
theorem dX7_fewest_106 : decode cX7_fewest 106 = .ok (.ireturn, 1) := by decide +kernel
theorem dX7_needed_0 : decode cX7_needed 0 = .ok (.iload_n 1, 1) := by decide +kernel
theorem dX7_needed_1 : decode cX7_needed 1 = .ok (.iload_n 2, 1) := by decide +kernel
theorem dX7_needed_2 : decode cX7_needed 2 = .ok (.iload_n 3, 1) := by decide +kernel
theorem dX7_needed_3 : decode cX7_needed 3 = .ok (.invokestatic 291, 3) := by decide +kernel
theorem dX7_needed_6 : decode cX7_needed 6 = .ok (.aload_n 0, 1) := by decide +kernel
theorem dX7_needed_7 : decode cX7_needed 7 = .ok (.aload_n 0, 1) := by decide +kernel
theorem dX7_needed_8 : decode cX7_needed 8 = .ok (.getfield 10, 3) := by decide +kernel
theorem dX7_needed_11 : decode cX7_needed 11 = .ok (.getfield 205, 3) := by decide +kernel
theorem dX7_needed_14 : decode cX7_needed 14 = .ok (.invokevirtual 299, 3) := by decide +kernel
theorem dX7_needed_17 : decode cX7_needed 17 = .ok (.astore 4, 2) := by decide +kernel
theorem dX7_needed_19 : decode cX7_needed 19 = .ok (.aload 4, 2) := by decide +kernel
theorem dX7_needed_21 : decode cX7_needed 21 = .ok (.ifnonnull 5, 3) := by decide +kernel
theorem dX7_needed_24 : decode cX7_needed 24 = .ok (.iconst 0, 1) := by decide +kernel
theorem dX7_needed_25 : decode cX7_needed 25 = .ok (.ireturn, 1) := by decide +kernel
theorem dX7_needed_26 : decode cX7_needed 26 = .ok (.aload_n 0, 1) := by decide +kernel
theorem dX7_needed_27 : decode cX7_needed 27 = .ok (.getfield 16, 3) := by decide +kernel
theorem dX7_needed_30 : decode cX7_needed 30 = .ok (.aload_n 0, 1) := by decide +kernel
theorem dX7_needed_31 : decode cX7_needed 31 = .ok (.getfield 10, 3) := by decide +kernel
theorem dX7_needed_34 : decode cX7_needed 34 = .ok (.invokevirtual 295, 3) := by decide +kernel
theorem dX7_needed_37 : decode cX7_needed 37 = .ok (.aload_n 0, 1) := by decide +kernel
theorem dX7_needed_38 : decode cX7_needed 38 = .ok (.getfield 52, 3) := by decide +kernel
theorem dX7_needed_41 : decode cX7_needed 41 = .ok (.aload 4, 2) := by decide +kernel
theorem dX7_needed_43 : decode cX7_needed 43 = .ok (.iconst (-1), 1) := by decide +kernel
theorem dX7_needed_44 : decode cX7_needed 44 = .ok (.invokevirtual 303, 3) := by decide +kernel
theorem dX7_needed_47 : decode cX7_needed 47 = .ok (.aload_n 0, 1) := by decide +kernel
theorem dX7_needed_48 : decode cX7_needed 48 = .ok (.iload_n 1, 1) := by decide +kernel
theorem dX7_needed_49 : decode cX7_needed 49 = .ok (.iload_n 2, 1) := by decide +kernel
theorem dX7_needed_50 : decode cX7_needed 50 = .ok (.iload_n 3, 1) := by decide +kernel
theorem dX7_needed_51 : decode cX7_needed 51 = .ok (.invokevirtual 307, 3) := by decide +kernel
theorem dX7_needed_54 : decode cX7_needed 54 = .ok (.istore 5, 2) := by decide +kernel
theorem dX7_needed_56 : decode cX7_needed 56 = .ok (.iconst 0, 1) := by decide +kernel
theorem dX7_needed_57 : decode cX7_needed 57 = .ok (.istore 6, 2) := by decide +kernel
theorem dX7_needed_59 : decode cX7_needed 59 = .ok (.iconst 0, 1) := by decide +kernel
theorem dX7_needed_60 : decode cX7_needed 60 = .ok (.istore 7, 2) := by decide +kernel
theorem dX7_needed_62 : decode cX7_needed 62 = .ok (.iload 7, 2) := by decide +kernel
theorem dX7_needed_64 : decode cX7_needed 64 = .ok (.aload 4, 2) := by decide +kernel
theorem dX7_needed_66 : decode cX7_needed 66 = .ok (.getfield 316, 3) := by decide +kernel
theorem dX7_needed_69 : decode cX7_needed 69 = .ok (.if_icmp .ge 52, 3) := by decide +kernel
theorem dX7_needed_72 : decode cX7_needed 72 = .ok (.aload_n 0, 1) := by decide +kernel
theorem dX7_needed_73 : decode cX7_needed 73 = .ok (.getfield 16, 3) := by decide +kernel
theorem dX7_needed_76 : decode cX7_needed 76 = .ok (.aload_n 0, 1) := by decide +kernel
theorem dX7_needed_77 : decode cX7_needed 77 = .ok (.getfield 10, 3) := by decide +kernel
theorem dX7_needed_80 : decode cX7_needed 80 = .ok (.invokevirtual 295, 3) := by decide +kernel
theorem dX7_needed_83 : decode cX7_needed 83 = .ok (.aload_n 0, 1) := by decide +kernel
theorem dX7_needed_84 : decode cX7_needed 84 = .ok (.getfield 52, 3) := by decide +kernel
theorem dX7_needed_87 : decode cX7_needed 87 = .ok (.aload 4, 2) := by decide +kernel
theorem dX7_needed_89 : decode cX7_needed 89 = .ok (.iload 7, 2) := by decide +kernel
theorem dX7_needed_91 : decode cX7_needed 91 = .ok (.invokevirtual 303, 3) := by decide +kernel
theorem dX7_needed_94 : decode cX7_needed 94 = .ok (.aload_n 0, 1) := by decide +kernel
theorem dX7_needed_95 : decode cX7_needed 95 = .ok (.iload_n 1, 1) := by decide +kernel
theorem dX7_needed_96 : decode cX7_needed 96 = .ok (.iload_n 2, 1) := by decide +kernel
theorem dX7_needed_97 : decode cX7_needed 97 = .ok (.iload_n 3, 1) := by decide +kernel
theorem dX7_needed_98 : decode cX7_needed 98 = .ok (.invokevirtual 307, 3) := by decide +kernel
theorem dX7_needed_101 : decode cX7_needed 101 = .ok (.iload 5, 2) := by decide +kernel
theorem dX7_needed_103 : decode cX7_needed 103 = .ok (.if_icmp .ge 12, 3) := by decide +kernel
theorem dX7_needed_106 : decode cX7_needed 106 = .ok (.iload 6, 2) := by decide +kernel
theorem dX7_needed_108 : decode cX7_needed 108 = .ok (.iconst 1, 1) := by decide +kernel
theorem dX7_needed_109 : decode cX7_needed 109 = .ok (.iload 7, 2) := by decide +kernel
theorem dX7_needed_111 : decode cX7_needed 111 = .ok (.ishl, 1) := by decide +kernel
theorem dX7_needed_112 : decode cX7_needed 112 = .ok (.ior, 1) := by decide +kernel
theorem dX7_needed_113 : decode cX7_needed 113 = .ok (.istore 6, 2) := by decide +kernel
theorem dX7_needed_115 : decode cX7_needed 115 = .ok (.iinc 7 1, 3) := by decide +kernel
theorem dX7_needed_118 : decode cX7_needed 118 = .ok (.goto (-56), 3) := by decide +kernel
theorem dX7_needed_121 : decode cX7_needed 121 = .ok (.iload 6, 2) := by decide +kernel
theorem dX7_needed_123 : decode cX7_needed 123 = .ok (.ireturn, 1) := by decide +kernel
theorem dX7_unlike_0 : decode cX7_unlike 0 = .ok (.iload_n 1, 1) := by decide +kernel
theorem dX7_unlike_1 : decode cX7_unlike 1 = .ok (.invokestatic 103, 3) := by decide +kernel
theorem dX7_unlike_4 : decode cX7_unlike 4 = .ok (.iload_n 2, 1) := by decide +kernel
theorem dX7_unlike_5 : decode cX7_unlike 5 = .ok (.invokestatic 103, 3) := by decide +kernel
theorem dX7_unlike_8 : decode cX7_unlike 8 = .ok (.aload_n 0, 1) := by decide +kernel
theorem dX7_unlike_9 : decode cX7_unlike 9 = .ok (.getfield 10, 3) := by decide +kernel
theorem dX7_unlike_12 : decode cX7_unlike 12 = .ok (.iload_n 1, 1) := by decide +kernel
theorem dX7_unlike_13 : decode cX7_unlike 13 = .ok (.invokevirtual 319, 3) := by decide +kernel
theorem dX7_unlike_16 : decode cX7_unlike 16 = .ok (.ifCond .eq 14, 3) := by decide +kernel
theorem dX7_unlike_19 : decode cX7_unlike 19 = .ok (.aload_n 0, 1) := by decide +kernel
theorem dX7_unlike_20 : decode cX7_unlike 20 = .ok (.getfield 10, 3) := by decide +kernel
theorem dX7_unlike_23 : decode cX7_unlike 23 = .ok (.iload_n 2, 1) := by decide +kernel
theorem dX7_unlike_24 : decode cX7_unlike 24 = .ok (.invokevirtual 319, 3) := by decide +kernel
theorem dX7_unlike_27 : decode cX7_unlike 27 = .ok (.ifCond .ne 5, 3) := by decide +kernel
theorem dX7_unlike_30 : decode cX7_unlike 30 = .ok (.iconst (-1), 1) := by decide +kernel
theorem dX7_unlike_31 : decode cX7_unlike 31 = .ok (.ireturn, 1) := by decide +kernel
theorem dX7_unlike_32 : decode cX7_unlike 32 = .ok (.aload_n 0, 1) := by decide +kernel
theorem dX7_unlike_33 : decode cX7_unlike 33 = .ok (.iload_n 1, 1) := by decide +kernel
theorem dX7_unlike_34 : decode cX7_unlike 34 = .ok (.iload_n 2, 1) := by decide +kernel
theorem dX7_unlike_35 : decode cX7_unlike 35 = .ok (.invokevirtual 322, 3) := by decide +kernel
theorem dX7_unlike_38 : decode cX7_unlike 38 = .ok (.ireturn, 1) := by decide +kernel
theorem dX7_meets_0 : decode cX7_meets 0 = .ok (.aload_n 0, 1) := by decide +kernel
theorem dX7_meets_1 : decode cX7_meets 1 = .ok (.iload_n 1, 1) := by decide +kernel
theorem dX7_meets_2 : decode cX7_meets 2 = .ok (.invokevirtual 121, 3) := by decide +kernel
theorem dX7_meets_5 : decode cX7_meets 5 = .ok (.aload_n 0, 1) := by decide +kernel
theorem dX7_meets_6 : decode cX7_meets 6 = .ok (.iload_n 2, 1) := by decide +kernel
theorem dX7_meets_7 : decode cX7_meets 7 = .ok (.invokevirtual 121, 3) := by decide +kernel
theorem dX7_meets_10 : decode cX7_meets 10 = .ok (.iload_n 1, 1) := by decide +kernel
theorem dX7_meets_11 : decode cX7_meets 11 = .ok (.iload_n 2, 1) := by decide +kernel
theorem dX7_meets_12 : decode cX7_meets 12 = .ok (.if_icmp .ne 14, 3) := by decide +kernel
theorem dX7_meets_15 : decode cX7_meets 15 = .ok (.new 107, 3) := by decide +kernel
theorem dX7_meets_18 : decode cX7_meets 18 = .ok (.dup, 1) := by decide +kernel
theorem dX7_meets_19 : decode cX7_meets 19 = .ok (.ldc_w 325, 3) := by decide +kernel
theorem dX7_meets_22 : decode cX7_meets 22 = .ok (.invokespecial 111, 3) := by decide +kernel
theorem dX7_meets_25 : decode cX7_meets 25 = .ok (.athrow, 1) := by decide +kernel
theorem dX7_meets_26 : decode cX7_meets 26 = .ok (.aload_n 0, 1) := by decide +kernel
theorem dX7_meets_27 : decode cX7_meets 27 = .ok (.getfield 10, 3) := by decide +kernel
theorem dX7_meets_30 : decode cX7_meets 30 = .ok (.iload_n 1, 1) := by decide +kernel
theorem dX7_meets_31 : decode cX7_meets 31 = .ok (.iload_n 2, 1) := by decide +kernel
theorem dX7_meets_32 : decode cX7_meets 32 = .ok (.invokevirtual 217, 3) := by decide +kernel
theorem dX7_meets_35 : decode cX7_meets 35 = .ok (.ifCond .ne 5, 3) := by decide +kernel
theorem dX7_meets_38 : decode cX7_meets 38 = .ok (.iconst (-1), 1) := by decide +kernel
theorem dX7_meets_39 : decode cX7_meets 39 = .ok (.ireturn, 1) := by decide +kernel
theorem dX7_meets_40 : decode cX7_meets 40 = .ok (.aload_n 0, 1) := by decide +kernel
theorem dX7_meets_41 : decode cX7_meets 41 = .ok (.getfield 16, 3) := by decide +kernel
theorem dX7_meets_44 : decode cX7_meets 44 = .ok (.aload_n 0, 1) := by decide +kernel
theorem dX7_meets_45 : decode cX7_meets 45 = .ok (.getfield 10, 3) := by decide +kernel
theorem dX7_meets_48 : decode cX7_meets 48 = .ok (.invokevirtual 295, 3) := by decide +kernel
theorem dX7_meets_51 : decode cX7_meets 51 = .ok (.iconst 0, 1) := by decide +kernel
theorem dX7_meets_52 : decode cX7_meets 52 = .ok (.istore_n 3, 1) := by decide +kernel
theorem dX7_meets_53 : decode cX7_meets 53 = .ok (.iconst 0, 1) := by decide +kernel
theorem dX7_meets_54 : decode cX7_meets 54 = .ok (.istore 4, 2) := by decide +kernel
theorem dX7_meets_56 : decode cX7_meets 56 = .ok (.iload 4, 2) := by decide +kernel
theorem dX7_meets_58 : decode cX7_meets 58 = .ok (.bipush 64, 2) := by decide +kernel
theorem dX7_meets_60 : decode cX7_meets 60 = .ok (.if_icmp .ge 79, 3) := by decide +kernel
theorem dX7_meets_63 : decode cX7_meets 63 = .ok (.aload_n 0, 1) := by decide +kernel
theorem dX7_meets_64 : decode cX7_meets 64 = .ok (.getfield 16, 3) := by decide +kernel
theorem dX7_meets_67 : decode cX7_meets 67 = .ok (.aload_n 0, 1) := by decide +kernel
theorem dX7_meets_68 : decode cX7_meets 68 = .ok (.getfield 10, 3) := by decide +kernel
theorem dX7_meets_71 : decode cX7_meets 71 = .ok (.invokevirtual 327, 3) := by decide +kernel
theorem dX7_meets_74 : decode cX7_meets 74 = .ok (.aload_n 0, 1) := by decide +kernel
theorem dX7_meets_75 : decode cX7_meets 75 = .ok (.getfield 45, 3) := by decide +kernel
theorem dX7_meets_78 : decode cX7_meets 78 = .ok (.iload_n 1, 1) := by decide +kernel
theorem dX7_meets_79 : decode cX7_meets 79 = .ok (.iload_n 2, 1) := by decide +kernel
theorem dX7_meets_80 : decode cX7_meets 80 = .ok (.iload 4, 2) := by decide +kernel
theorem dX7_meets_82 : decode cX7_meets 82 = .ok (.bipush 16, 2) := by decide +kernel
theorem dX7_meets_84 : decode cX7_meets 84 = .ok (.idiv, 1) := by decide +kernel
theorem dX7_meets_85 : decode cX7_meets 85 = .ok (.iload 4, 2) := by decide +kernel
theorem dX7_meets_87 : decode cX7_meets 87 = .ok (.iconst 4, 1) := by decide +kernel
theorem dX7_meets_88 : decode cX7_meets 88 = .ok (.idiv, 1) := by decide +kernel
theorem dX7_meets_89 : decode cX7_meets 89 = .ok (.iconst 4, 1) := by decide +kernel
theorem dX7_meets_90 : decode cX7_meets 90 = .ok (.irem, 1) := by decide +kernel
theorem dX7_meets_91 : decode cX7_meets 91 = .ok (.iload 4, 2) := by decide +kernel
theorem dX7_meets_93 : decode cX7_meets 93 = .ok (.iconst 4, 1) := by decide +kernel
theorem dX7_meets_94 : decode cX7_meets 94 = .ok (.irem, 1) := by decide +kernel
theorem dX7_meets_95 : decode cX7_meets 95 = .ok (.invokevirtual 221, 3) := by decide +kernel
theorem dX7_meets_98 : decode cX7_meets 98 = .ok (.aload_n 0, 1) := by decide +kernel
theorem dX7_meets_99 : decode cX7_meets 99 = .ok (.getfield 45, 3) := by decide +kernel
theorem dX7_meets_102 : decode cX7_meets 102 = .ok (.aload_n 0, 1) := by decide +kernel
theorem dX7_meets_103 : decode cX7_meets 103 = .ok (.getfield 16, 3) := by decide +kernel
theorem dX7_meets_106 : decode cX7_meets 106 = .ok (.invokevirtual 330, 3) := by decide +kernel
theorem dX7_meets_109 : decode cX7_meets 109 = .ok (.aload_n 0, 1) := by decide +kernel
theorem dX7_meets_110 : decode cX7_meets 110 = .ok (.getfield 45, 3) := by decide +kernel
theorem dX7_meets_113 : decode cX7_meets 113 = .ok (.aload_n 0, 1) := by decide +kernel
theorem dX7_meets_114 : decode cX7_meets 114 = .ok (.getfield 16, 3) := by decide +kernel
theorem dX7_meets_117 : decode cX7_meets 117 = .ok (.invokevirtual 333, 3) := by decide +kernel
theorem dX7_meets_120 : decode cX7_meets 120 = .ok (.aload_n 0, 1) := by decide +kernel
theorem dX7_meets_121 : decode cX7_meets 121 = .ok (.getfield 45, 3) := by decide +kernel
theorem dX7_meets_124 : decode cX7_meets 124 = .ok (.getfield 228, 3) := by decide +kernel
theorem dX7_meets_127 : decode cX7_meets 127 = .ok (.ifCond .eq 6, 3) := by decide +kernel
theorem dX7_meets_130 : decode cX7_meets 130 = .ok (.iinc 3 1, 3) := by decide +kernel
theorem dX7_meets_133 : decode cX7_meets 133 = .ok (.iinc 4 1, 3) := by decide +kernel
theorem dX7_meets_136 : decode cX7_meets 136 = .ok (.goto (-80), 3) := by decide +kernel
theorem dX7_meets_139 : decode cX7_meets 139 = .ok (.iload_n 3, 1) := by decide +kernel
theorem dX7_meets_140 : decode cX7_meets 140 = .ok (.ireturn, 1) := by decide +kernel
theorem dX7_image_0 : decode cX7_image 0 = .ok (.aload_n 0, 1) := by decide +kernel
theorem dX7_image_1 : decode cX7_image 1 = .ok (.getfield 89, 3) := by decide +kernel
theorem dX7_image_4 : decode cX7_image 4 = .ok (.iconst 4, 1) := by decide +kernel
theorem dX7_image_5 : decode cX7_image 5 = .ok (.if_icmp .lt 5, 3) := by decide +kernel
theorem dX7_image_8 : decode cX7_image 8 = .ok (.iconst (-1), 1) := by decide +kernel
theorem dX7_image_9 : decode cX7_image 9 = .ok (.ireturn, 1) := by decide +kernel
theorem dX7_image_10 : decode cX7_image 10 = .ok (.aload_n 0, 1) := by decide +kernel
theorem dX7_image_11 : decode cX7_image 11 = .ok (.getfield 19, 3) := by decide +kernel
theorem dX7_image_14 : decode cX7_image 14 = .ok (.aload_n 0, 1) := by decide +kernel
theorem dX7_image_15 : decode cX7_image 15 = .ok (.getfield 89, 3) := by decide +kernel
theorem dX7_image_18 : decode cX7_image 18 = .ok (.aaload, 1) := by decide +kernel
theorem dX7_image_19 : decode cX7_image 19 = .ok (.aload_n 0, 1) := by decide +kernel
theorem dX7_image_20 : decode cX7_image 20 = .ok (.getfield 10, 3) := by decide +kernel
theorem dX7_image_23 : decode cX7_image 23 = .ok (.invokevirtual 295, 3) := by decide +kernel
theorem dX7_image_26 : decode cX7_image 26 = .ok (.aload_n 0, 1) := by decide +kernel
theorem dX7_image_27 : decode cX7_image 27 = .ok (.dup, 1) := by decide +kernel
theorem dX7_image_28 : decode cX7_image 28 = .ok (.getfield 89, 3) := by decide +kernel
theorem dX7_image_31 : decode cX7_image 31 = .ok (.iconst 1, 1) := by decide +kernel
theorem dX7_image_32 : decode cX7_image 32 = .ok (.iadd, 1) := by decide +kernel
theorem dX7_image_33 : decode cX7_image 33 = .ok (.putfield 89, 3) := by decide +kernel
theorem dX7_image_36 : decode cX7_image 36 = .ok (.aload_n 0, 1) := by decide +kernel
theorem dX7_image_37 : decode cX7_image 37 = .ok (.getfield 89, 3) := by decide +kernel
theorem dX7_image_40 : decode cX7_image 40 = .ok (.ireturn, 1) := by decide +kernel
theorem dX7_restore_0 : decode cX7_restore 0 = .ok (.aload_n 0, 1) := by decide +kernel
theorem dX7_restore_1 : decode cX7_restore 1 = .ok (.getfield 89, 3) := by decide +kernel
theorem dX7_restore_4 : decode cX7_restore 4 = .ok (.ifCond .gt 5, 3) := by decide +kernel
theorem dX7_restore_7 : decode cX7_restore 7 = .ok (.iconst (-1), 1) := by decide +kernel
theorem dX7_restore_8 : decode cX7_restore 8 = .ok (.ireturn, 1) := by decide +kernel
theorem dX7_restore_9 : decode cX7_restore 9 = .ok (.aload_n 0, 1) := by decide +kernel
theorem dX7_restore_10 : decode cX7_restore 10 = .ok (.dup, 1) := by decide +kernel
theorem dX7_restore_11 : decode cX7_restore 11 = .ok (.getfield 89, 3) := by decide +kernel
theorem dX7_restore_14 : decode cX7_restore 14 = .ok (.iconst 1, 1) := by decide +kernel
theorem dX7_restore_15 : decode cX7_restore 15 = .ok (.isub, 1) := by decide +kernel
theorem dX7_restore_16 : decode cX7_restore 16 = .ok (.putfield 89, 3) := by decide +kernel
theorem dX7_restore_19 : decode cX7_restore 19 = .ok (.aload_n 0, 1) := by decide +kernel
theorem dX7_restore_20 : decode cX7_restore 20 = .ok (.getfield 10, 3) := by decide +kernel
theorem dX7_restore_23 : decode cX7_restore 23 = .ok (.aload_n 0, 1) := by decide +kernel
theorem dX7_restore_24 : decode cX7_restore 24 = .ok (.getfield 19, 3) := by decide +kernel
theorem dX7_restore_27 : decode cX7_restore 27 = .ok (.aload_n 0, 1) := by decide +kernel
theorem dX7_restore_28 : decode cX7_restore 28 = .ok (.getfield 89, 3) := by decide +kernel
theorem dX7_restore_31 : decode cX7_restore 31 = .ok (.aaload, 1) := by decide +kernel
theorem dX7_restore_32 : decode cX7_restore 32 = .ok (.invokevirtual 295, 3) := by decide +kernel
theorem dX7_restore_35 : decode cX7_restore 35 = .ok (.aload_n 0, 1) := by decide +kernel
theorem dX7_restore_36 : decode cX7_restore 36 = .ok (.invokevirtual 100, 3) := by decide +kernel
theorem dX7_restore_39 : decode cX7_restore 39 = .ok (.aload_n 0, 1) := by decide +kernel
theorem dX7_restore_40 : decode cX7_restore 40 = .ok (.getfield 89, 3) := by decide +kernel
theorem dX7_restore_43 : decode cX7_restore 43 = .ok (.ireturn, 1) := by decide +kernel
theorem dX7_plain_0 : decode cX7_plain 0 = .ok (.aload_n 0, 1) := by decide +kernel
theorem dX7_plain_1 : decode cX7_plain 1 = .ok (.iload_n 1, 1) := by decide +kernel
theorem dX7_plain_2 : decode cX7_plain 2 = .ok (.invokevirtual 121, 3) := by decide +kernel
theorem dX7_plain_5 : decode cX7_plain 5 = .ok (.aload_n 0, 1) := by decide +kernel
theorem dX7_plain_6 : decode cX7_plain 6 = .ok (.getfield 10, 3) := by decide +kernel
theorem dX7_plain_9 : decode cX7_plain 9 = .ok (.iload_n 1, 1) := by decide +kernel
theorem dX7_plain_10 : decode cX7_plain 10 = .ok (.invokevirtual 336, 3) := by decide +kernel
theorem dX7_plain_13 : decode cX7_plain 13 = .ok (.iconst (-1), 1) := by decide +kernel
theorem dX7_plain_14 : decode cX7_plain 14 = .ok (.if_icmp .ne 5, 3) := by decide +kernel
theorem dX7_plain_17 : decode cX7_plain 17 = .ok (.iconst 0, 1) := by decide +kernel
theorem dX7_plain_18 : decode cX7_plain 18 = .ok (.ireturn, 1) := by decide +kernel
theorem dX7_plain_19 : decode cX7_plain 19 = .ok (.aload_n 0, 1) := by decide +kernel
theorem dX7_plain_20 : decode cX7_plain 20 = .ok (.iload_n 1, 1) := by decide +kernel
theorem dX7_plain_21 : decode cX7_plain 21 = .ok (.iconst 0, 1) := by decide +kernel
theorem dX7_plain_22 : decode cX7_plain 22 = .ok (.invokevirtual 339, 3) := by decide +kernel
theorem dX7_plain_25 : decode cX7_plain 25 = .ok (.istore_n 2, 1) := by decide +kernel
theorem dX7_plain_26 : decode cX7_plain 26 = .ok (.aload_n 0, 1) := by decide +kernel
theorem dX7_plain_27 : decode cX7_plain 27 = .ok (.iload_n 1, 1) := by decide +kernel
theorem dX7_plain_28 : decode cX7_plain 28 = .ok (.iconst 4, 1) := by decide +kernel
theorem dX7_plain_29 : decode cX7_plain 29 = .ok (.invokevirtual 339, 3) := by decide +kernel
theorem dX7_plain_32 : decode cX7_plain 32 = .ok (.istore_n 3, 1) := by decide +kernel
theorem dX7_plain_33 : decode cX7_plain 33 = .ok (.iload_n 2, 1) := by decide +kernel
theorem dX7_plain_34 : decode cX7_plain 34 = .ok (.iload_n 3, 1) := by decide +kernel
theorem dX7_plain_35 : decode cX7_plain 35 = .ok (.imul, 1) := by decide +kernel
theorem dX7_plain_36 : decode cX7_plain 36 = .ok (.iload_n 2, 1) := by decide +kernel
theorem dX7_plain_37 : decode cX7_plain 37 = .ok (.imul, 1) := by decide +kernel
theorem dX7_plain_38 : decode cX7_plain 38 = .ok (.ireturn, 1) := by decide +kernel
theorem dX7_word_0 : decode cX7_word 0 = .ok (.iload_n 1, 1) := by decide +kernel
theorem dX7_word_1 : decode cX7_word 1 = .ok (.invokestatic 103, 3) := by decide +kernel
theorem dX7_word_4 : decode cX7_word 4 = .ok (.iload_n 2, 1) := by decide +kernel
theorem dX7_word_5 : decode cX7_word 5 = .ok (.invokestatic 148, 3) := by decide +kernel
theorem dX7_word_8 : decode cX7_word 8 = .ok (.aload_n 0, 1) := by decide +kernel
theorem dX7_word_9 : decode cX7_word 9 = .ok (.getfield 10, 3) := by decide +kernel
theorem dX7_word_12 : decode cX7_word 12 = .ok (.iload_n 1, 1) := by decide +kernel
theorem dX7_word_13 : decode cX7_word 13 = .ok (.invokevirtual 319, 3) := by decide +kernel
theorem dX7_word_16 : decode cX7_word 16 = .ok (.ifCond .ne 7, 3) := by decide +kernel
theorem dX7_word_19 : decode cX7_word 19 = .ok (.iconst (-1), 1) := by decide +kernel
theorem dX7_word_20 : decode cX7_word 20 = .ok (.goto 12, 3) := by decide +kernel
theorem dX7_word_23 : decode cX7_word 23 = .ok (.aload_n 0, 1) := by decide +kernel
theorem dX7_word_24 : decode cX7_word 24 = .ok (.getfield 10, 3) := by decide +kernel
theorem dX7_word_27 : decode cX7_word 27 = .ok (.iload_n 1, 1) := by decide +kernel
theorem dX7_word_28 : decode cX7_word 28 = .ok (.iload_n 2, 1) := by decide +kernel
theorem dX7_word_29 : decode cX7_word 29 = .ok (.invokevirtual 342, 3) := by decide +kernel
theorem dX7_word_32 : decode cX7_word 32 = .ok (.ireturn, 1) := by decide +kernel
theorem dX7_blurred_0 : decode cX7_blurred 0 = .ok (.iload_n 1, 1) := by decide +kernel
theorem dX7_blurred_1 : decode cX7_blurred 1 = .ok (.invokestatic 103, 3) := by decide +kernel
theorem dX7_blurred_4 : decode cX7_blurred 4 = .ok (.aload_n 0, 1) := by decide +kernel
theorem dX7_blurred_5 : decode cX7_blurred 5 = .ok (.getfield 10, 3) := by decide +kernel
theorem dX7_blurred_8 : decode cX7_blurred 8 = .ok (.iload_n 1, 1) := by decide +kernel
theorem dX7_blurred_9 : decode cX7_blurred 9 = .ok (.invokevirtual 319, 3) := by decide +kernel
theorem dX7_blurred_12 : decode cX7_blurred 12 = .ok (.ifCond .ne 5, 3) := by decide +kernel
theorem dX7_blurred_15 : decode cX7_blurred 15 = .ok (.iconst (-1), 1) := by decide +kernel
theorem dX7_blurred_16 : decode cX7_blurred 16 = .ok (.ireturn, 1) := by decide +kernel
theorem dX7_blurred_17 : decode cX7_blurred 17 = .ok (.iconst 0, 1) := by decide +kernel
theorem dX7_blurred_18 : decode cX7_blurred 18 = .ok (.istore_n 3, 1) := by decide +kernel
theorem dX7_blurred_19 : decode cX7_blurred 19 = .ok (.iconst 0, 1) := by decide +kernel
theorem dX7_blurred_20 : decode cX7_blurred 20 = .ok (.istore 4, 2) := by decide +kernel
theorem dX7_blurred_22 : decode cX7_blurred 22 = .ok (.iload 4, 2) := by decide +kernel
theorem dX7_blurred_24 : decode cX7_blurred 24 = .ok (.bipush 8, 2) := by decide +kernel
theorem dX7_blurred_26 : decode cX7_blurred 26 = .ok (.if_icmp .ge 71, 3) := by decide +kernel
theorem dX7_blurred_29 : decode cX7_blurred 29 = .ok (.iload 4, 2) := by decide +kernel
theorem dX7_blurred_31 : decode cX7_blurred 31 = .ok (.iconst 4, 1) := by decide +kernel
theorem dX7_blurred_32 : decode cX7_blurred 32 = .ok (.if_icmp .ge 7, 3) := by decide +kernel
theorem dX7_blurred_35 : decode cX7_blurred 35 = .ok (.iconst 4, 1) := by decide +kernel
theorem dX7_blurred_36 : decode cX7_blurred 36 = .ok (.goto 5, 3) := by decide +kernel
theorem dX7_blurred_39 : decode cX7_blurred 39 = .ok (.bipush 8, 2) := by decide +kernel
theorem dX7_blurred_41 : decode cX7_blurred 41 = .ok (.istore 5, 2) := by decide +kernel
theorem dX7_blurred_43 : decode cX7_blurred 43 = .ok (.iload 4, 2) := by decide +kernel
theorem dX7_blurred_45 : decode cX7_blurred 45 = .ok (.iconst 1, 1) := by decide +kernel
theorem dX7_blurred_46 : decode cX7_blurred 46 = .ok (.iadd, 1) := by decide +kernel
theorem dX7_blurred_47 : decode cX7_blurred 47 = .ok (.istore 6, 2) := by decide +kernel
theorem dX7_blurred_49 : decode cX7_blurred 49 = .ok (.iload 6, 2) := by decide +kernel
theorem dX7_blurred_51 : decode cX7_blurred 51 = .ok (.iload 5, 2) := by decide +kernel
theorem dX7_blurred_53 : decode cX7_blurred 53 = .ok (.if_icmp .ge 38, 3) := by decide +kernel
theorem dX7_blurred_56 : decode cX7_blurred 56 = .ok (.aload_n 0, 1) := by decide +kernel
theorem dX7_blurred_57 : decode cX7_blurred 57 = .ok (.iload_n 1, 1) := by decide +kernel
theorem dX7_blurred_58 : decode cX7_blurred 58 = .ok (.iload 4, 2) := by decide +kernel
theorem dX7_blurred_60 : decode cX7_blurred 60 = .ok (.iload 6, 2) := by decide +kernel
theorem dX7_blurred_62 : decode cX7_blurred 62 = .ok (.invokevirtual 345, 3) := by decide +kernel
theorem dX7_blurred_65 : decode cX7_blurred 65 = .ok (.ifCond .eq 20, 3) := by decide +kernel
theorem dX7_blurred_68 : decode cX7_blurred 68 = .ok (.iload_n 3, 1) := by decide +kernel
theorem dX7_blurred_69 : decode cX7_blurred 69 = .ok (.iload_n 2, 1) := by decide +kernel
theorem dX7_blurred_70 : decode cX7_blurred 70 = .ok (.if_icmp .ne 12, 3) := by decide +kernel
theorem dX7_blurred_73 : decode cX7_blurred 73 = .ok (.bipush 8, 2) := by decide +kernel
theorem dX7_blurred_75 : decode cX7_blurred 75 = .ok (.iload 4, 2) := by decide +kernel
theorem dX7_blurred_77 : decode cX7_blurred 77 = .ok (.imul, 1) := by decide +kernel
theorem dX7_blurred_78 : decode cX7_blurred 78 = .ok (.iload 6, 2) := by decide +kernel
theorem dX7_blurred_80 : decode cX7_blurred 80 = .ok (.iadd, 1) := by decide +kernel
theorem dX7_blurred_81 : decode cX7_blurred 81 = .ok (.ireturn, 1) := by decide +kernel
theorem dX7_blurred_82 : decode cX7_blurred 82 = .ok (.iinc 3 1, 3) := by decide +kernel
theorem dX7_blurred_85 : decode cX7_blurred 85 = .ok (.iinc 6 1, 3) := by decide +kernel
theorem dX7_blurred_88 : decode cX7_blurred 88 = .ok (.goto (-39), 3) := by decide +kernel
theorem dX7_blurred_91 : decode cX7_blurred 91 = .ok (.iinc 4 1, 3) := by decide +kernel
theorem dX7_blurred_94 : decode cX7_blurred 94 = .ok (.goto (-72), 3) := by decide +kernel
theorem dX7_blurred_97 : decode cX7_blurred 97 = .ok (.iload_n 2, 1) := by decide +kernel
theorem dX7_blurred_98 : decode cX7_blurred 98 = .ok (.iconst (-1), 1) := by decide +kernel
theorem dX7_blurred_99 : decode cX7_blurred 99 = .ok (.if_icmp .ne 7, 3) := by decide +kernel
theorem dX7_blurred_102 : decode cX7_blurred 102 = .ok (.iload_n 3, 1) := by decide +kernel
theorem dX7_blurred_103 : decode cX7_blurred 103 = .ok (.goto 4, 3) := by decide +kernel
theorem dX7_blurred_106 : decode cX7_blurred 106 = .ok (.iconst (-1), 1) := by decide +kernel
theorem dX7_blurred_107 : decode cX7_blurred 107 = .ok (.ireturn, 1) := by decide +kernel
theorem dX7_nearest_0 : decode cX7_nearest 0 = .ok (.iload_n 1, 1) := by decide +kernel
theorem dX7_nearest_1 : decode cX7_nearest 1 = .ok (.invokestatic 103, 3) := by decide +kernel
theorem dX7_nearest_4 : decode cX7_nearest 4 = .ok (.aload_n 0, 1) := by decide +kernel
theorem dX7_nearest_5 : decode cX7_nearest 5 = .ok (.getfield 10, 3) := by decide +kernel
theorem dX7_nearest_8 : decode cX7_nearest 8 = .ok (.iload_n 1, 1) := by decide +kernel
theorem dX7_nearest_9 : decode cX7_nearest 9 = .ok (.invokevirtual 319, 3) := by decide +kernel
theorem dX7_nearest_12 : decode cX7_nearest 12 = .ok (.ifCond .ne 5, 3) := by decide +kernel
theorem dX7_nearest_15 : decode cX7_nearest 15 = .ok (.iconst (-1), 1) := by decide +kernel
theorem dX7_nearest_16 : decode cX7_nearest 16 = .ok (.ireturn, 1) := by decide +kernel
theorem dX7_nearest_17 : decode cX7_nearest 17 = .ok (.iconst (-1), 1) := by decide +kernel
theorem dX7_nearest_18 : decode cX7_nearest 18 = .ok (.istore_n 2, 1) := by decide +kernel
theorem dX7_nearest_19 : decode cX7_nearest 19 = .ok (.bipush 10, 2) := by decide +kernel
theorem dX7_nearest_21 : decode cX7_nearest 21 = .ok (.istore_n 3, 1) := by decide +kernel
theorem dX7_nearest_22 : decode cX7_nearest 22 = .ok (.iconst 0, 1) := by decide +kernel
theorem dX7_nearest_23 : decode cX7_nearest 23 = .ok (.istore 4, 2) := by decide +kernel
theorem dX7_nearest_25 : decode cX7_nearest 25 = .ok (.iload 4, 2) := by decide +kernel
theorem dX7_nearest_27 : decode cX7_nearest 27 = .ok (.iconst 3, 1) := by decide +kernel
theorem dX7_nearest_28 : decode cX7_nearest 28 = .ok (.if_icmp .ge 48, 3) := by decide +kernel
theorem dX7_nearest_31 : decode cX7_nearest 31 = .ok (.iload 4, 2) := by decide +kernel
theorem dX7_nearest_33 : decode cX7_nearest 33 = .ok (.iload_n 1, 1) := by decide +kernel
theorem dX7_nearest_34 : decode cX7_nearest 34 = .ok (.if_icmp .eq 36, 3) := by decide +kernel
theorem dX7_nearest_37 : decode cX7_nearest 37 = .ok (.aload_n 0, 1) := by decide +kernel
theorem dX7_nearest_38 : decode cX7_nearest 38 = .ok (.getfield 10, 3) := by decide +kernel
theorem dX7_nearest_41 : decode cX7_nearest 41 = .ok (.iload 4, 2) := by decide +kernel
theorem dX7_nearest_43 : decode cX7_nearest 43 = .ok (.invokevirtual 319, 3) := by decide +kernel
theorem dX7_nearest_46 : decode cX7_nearest 46 = .ok (.ifCond .le 24, 3) := by decide +kernel
theorem dX7_nearest_49 : decode cX7_nearest 49 = .ok (.aload_n 0, 1) := by decide +kernel
theorem dX7_nearest_50 : decode cX7_nearest 50 = .ok (.iload_n 1, 1) := by decide +kernel
theorem dX7_nearest_51 : decode cX7_nearest 51 = .ok (.iload 4, 2) := by decide +kernel
theorem dX7_nearest_53 : decode cX7_nearest 53 = .ok (.invokevirtual 322, 3) := by decide +kernel
theorem dX7_nearest_56 : decode cX7_nearest 56 = .ok (.istore 5, 2) := by decide +kernel
theorem dX7_nearest_58 : decode cX7_nearest 58 = .ok (.iload 5, 2) := by decide +kernel
theorem dX7_nearest_60 : decode cX7_nearest 60 = .ok (.iload_n 3, 1) := by decide +kernel
theorem dX7_nearest_61 : decode cX7_nearest 61 = .ok (.if_icmp .ge 9, 3) := by decide +kernel
theorem dX7_nearest_64 : decode cX7_nearest 64 = .ok (.iload 5, 2) := by decide +kernel
theorem dX7_nearest_66 : decode cX7_nearest 66 = .ok (.istore_n 3, 1) := by decide +kernel
theorem dX7_nearest_67 : decode cX7_nearest 67 = .ok (.iload 4, 2) := by decide +kernel
theorem dX7_nearest_69 : decode cX7_nearest 69 = .ok (.istore_n 2, 1) := by decide +kernel
theorem dX7_nearest_70 : decode cX7_nearest 70 = .ok (.iinc 4 1, 3) := by decide +kernel
theorem dX7_nearest_73 : decode cX7_nearest 73 = .ok (.goto (-48), 3) := by decide +kernel
theorem dX7_nearest_76 : decode cX7_nearest 76 = .ok (.iload_n 2, 1) := by decide +kernel
theorem dX7_nearest_77 : decode cX7_nearest 77 = .ok (.ireturn, 1) := by decide +kernel
theorem dX7_since_0 : decode cX7_since 0 = .ok (.aload_n 0, 1) := by decide +kernel
theorem dX7_since_1 : decode cX7_since 1 = .ok (.iload_n 1, 1) := by decide +kernel
theorem dX7_since_2 : decode cX7_since 2 = .ok (.invokevirtual 121, 3) := by decide +kernel
theorem dX7_since_5 : decode cX7_since 5 = .ok (.iload_n 2, 1) := by decide +kernel
theorem dX7_since_6 : decode cX7_since 6 = .ok (.invokestatic 161, 3) := by decide +kernel
theorem dX7_since_9 : decode cX7_since 9 = .ok (.aload_n 0, 1) := by decide +kernel
theorem dX7_since_10 : decode cX7_since 10 = .ok (.getfield 38, 3) := by decide +kernel
theorem dX7_since_13 : decode cX7_since 13 = .ok (.getfield 348, 3) := by decide +kernel
theorem dX7_since_16 : decode cX7_since 16 = .ok (.iload_n 1, 1) := by decide +kernel
theorem dX7_since_17 : decode cX7_since 17 = .ok (.bipush 6, 2) := by decide +kernel
theorem dX7_since_19 : decode cX7_since 19 = .ok (.imul, 1) := by decide +kernel
theorem dX7_since_20 : decode cX7_since 20 = .ok (.iload_n 2, 1) := by decide +kernel
theorem dX7_since_21 : decode cX7_since 21 = .ok (.iadd, 1) := by decide +kernel
theorem dX7_since_22 : decode cX7_since 22 = .ok (.iaload, 1) := by decide +kernel
theorem dX7_since_23 : decode cX7_since 23 = .ok (.ireturn, 1) := by decide +kernel
theorem dX7_taught_0 : decode cX7_taught 0 = .ok (.aload_n 0, 1) := by decide +kernel
theorem dX7_taught_1 : decode cX7_taught 1 = .ok (.iload_n 1, 1) := by decide +kernel
theorem dX7_taught_2 : decode cX7_taught 2 = .ok (.invokevirtual 121, 3) := by decide +kernel
theorem dX7_taught_5 : decode cX7_taught 5 = .ok (.iload_n 2, 1) := by decide +kernel
theorem dX7_taught_6 : decode cX7_taught 6 = .ok (.invokestatic 161, 3) := by decide +kernel
theorem dX7_taught_9 : decode cX7_taught 9 = .ok (.aload_n 0, 1) := by decide +kernel
theorem dX7_taught_10 : decode cX7_taught 10 = .ok (.iload_n 1, 1) := by decide +kernel
theorem dX7_taught_11 : decode cX7_taught 11 = .ok (.iload_n 2, 1) := by decide +kernel
theorem dX7_taught_12 : decode cX7_taught 12 = .ok (.invokevirtual 351, 3) := by decide +kernel
theorem dX7_taught_15 : decode cX7_taught 15 = .ok (.ireturn, 1) := by decide +kernel
theorem dX7_root_0 : decode cX7_root 0 = .ok (.aload_n 0, 1) := by decide +kernel
theorem dX7_root_1 : decode cX7_root 1 = .ok (.iload_n 1, 1) := by decide +kernel
theorem dX7_root_2 : decode cX7_root 2 = .ok (.invokevirtual 121, 3) := by decide +kernel
theorem dX7_root_5 : decode cX7_root 5 = .ok (.iload_n 2, 1) := by decide +kernel
theorem dX7_root_6 : decode cX7_root 6 = .ok (.invokestatic 161, 3) := by decide +kernel
theorem dX7_root_9 : decode cX7_root 9 = .ok (.iconst 1, 1) := by decide +kernel
theorem dX7_root_10 : decode cX7_root 10 = .ok (.iload_n 1, 1) := by decide +kernel
theorem dX7_root_11 : decode cX7_root 11 = .ok (.ishl, 1) := by decide +kernel
theorem dX7_root_12 : decode cX7_root 12 = .ok (.istore_n 3, 1) := by decide +kernel
theorem dX7_root_13 : decode cX7_root 13 = .ok (.iload_n 1, 1) := by decide +kernel
theorem dX7_root_14 : decode cX7_root 14 = .ok (.istore 4, 2) := by decide +kernel
theorem dX7_root_16 : decode cX7_root 16 = .ok (.iconst 0, 1) := by decide +kernel
theorem dX7_root_17 : decode cX7_root 17 = .ok (.istore 5, 2) := by decide +kernel
theorem dX7_root_19 : decode cX7_root 19 = .ok (.iload 5, 2) := by decide +kernel
theorem dX7_root_21 : decode cX7_root 21 = .ok (.bipush 24, 2) := by decide +kernel
theorem dX7_root_23 : decode cX7_root 23 = .ok (.if_icmp .ge 48, 3) := by decide +kernel
theorem dX7_root_26 : decode cX7_root 26 = .ok (.aload_n 0, 1) := by decide +kernel
theorem dX7_root_27 : decode cX7_root 27 = .ok (.iload 4, 2) := by decide +kernel
theorem dX7_root_29 : decode cX7_root 29 = .ok (.iload_n 2, 1) := by decide +kernel
theorem dX7_root_30 : decode cX7_root 30 = .ok (.invokevirtual 351, 3) := by decide +kernel
theorem dX7_root_33 : decode cX7_root 33 = .ok (.istore 6, 2) := by decide +kernel
theorem dX7_root_35 : decode cX7_root 35 = .ok (.iload 6, 2) := by decide +kernel
theorem dX7_root_37 : decode cX7_root 37 = .ok (.iconst (-1), 1) := by decide +kernel
theorem dX7_root_38 : decode cX7_root 38 = .ok (.if_icmp .eq 33, 3) := by decide +kernel
theorem dX7_root_41 : decode cX7_root 41 = .ok (.iload_n 3, 1) := by decide +kernel
theorem dX7_root_42 : decode cX7_root 42 = .ok (.iload 6, 2) := by decide +kernel
theorem dX7_root_44 : decode cX7_root 44 = .ok (.ishr, 1) := by decide +kernel
theorem dX7_root_45 : decode cX7_root 45 = .ok (.iconst 1, 1) := by decide +kernel
theorem dX7_root_46 : decode cX7_root 46 = .ok (.iand, 1) := by decide +kernel
theorem dX7_root_47 : decode cX7_root 47 = .ok (.iconst 1, 1) := by decide +kernel
theorem dX7_root_48 : decode cX7_root 48 = .ok (.if_icmp .ne 6, 3) := by decide +kernel
theorem dX7_root_51 : decode cX7_root 51 = .ok (.goto 20, 3) := by decide +kernel
theorem dX7_root_54 : decode cX7_root 54 = .ok (.iload_n 3, 1) := by decide +kernel
theorem dX7_root_55 : decode cX7_root 55 = .ok (.iconst 1, 1) := by decide +kernel
theorem dX7_root_56 : decode cX7_root 56 = .ok (.iload 6, 2) := by decide +kernel
theorem dX7_root_58 : decode cX7_root 58 = .ok (.ishl, 1) := by decide +kernel
theorem dX7_root_59 : decode cX7_root 59 = .ok (.ior, 1) := by decide +kernel
theorem dX7_root_60 : decode cX7_root 60 = .ok (.istore_n 3, 1) := by decide +kernel
theorem dX7_root_61 : decode cX7_root 61 = .ok (.iload 6, 2) := by decide +kernel
theorem dX7_root_63 : decode cX7_root 63 = .ok (.istore 4, 2) := by decide +kernel
theorem dX7_root_65 : decode cX7_root 65 = .ok (.iinc 5 1, 3) := by decide +kernel
theorem dX7_root_68 : decode cX7_root 68 = .ok (.goto (-49), 3) := by decide +kernel
theorem dX7_root_71 : decode cX7_root 71 = .ok (.iload 4, 2) := by decide +kernel
theorem dX7_root_73 : decode cX7_root 73 = .ok (.ireturn, 1) := by decide +kernel
theorem dX7_untaught_0 : decode cX7_untaught 0 = .ok (.iload_n 1, 1) := by decide +kernel
theorem dX7_untaught_1 : decode cX7_untaught 1 = .ok (.iload_n 2, 1) := by decide +kernel
theorem dX7_untaught_2 : decode cX7_untaught 2 = .ok (.iload_n 3, 1) := by decide +kernel
theorem dX7_untaught_3 : decode cX7_untaught 3 = .ok (.invokestatic 291, 3) := by decide +kernel
theorem dX7_untaught_6 : decode cX7_untaught 6 = .ok (.aload_n 0, 1) := by decide +kernel
theorem dX7_untaught_7 : decode cX7_untaught 7 = .ok (.getfield 16, 3) := by decide +kernel
theorem dX7_untaught_10 : decode cX7_untaught 10 = .ok (.aload_n 0, 1) := by decide +kernel
theorem dX7_untaught_11 : decode cX7_untaught 11 = .ok (.getfield 10, 3) := by decide +kernel
theorem dX7_untaught_14 : decode cX7_untaught 14 = .ok (.invokevirtual 295, 3) := by decide +kernel
theorem dX7_untaught_17 : decode cX7_untaught 17 = .ok (.aload_n 0, 1) := by decide +kernel
theorem dX7_untaught_18 : decode cX7_untaught 18 = .ok (.getfield 16, 3) := by decide +kernel
theorem dX7_untaught_21 : decode cX7_untaught 21 = .ok (.iload_n 1, 1) := by decide +kernel
theorem dX7_untaught_22 : decode cX7_untaught 22 = .ok (.invokevirtual 354, 3) := by decide +kernel
theorem dX7_untaught_25 : decode cX7_untaught 25 = .ok (.aload_n 0, 1) := by decide +kernel
theorem dX7_untaught_26 : decode cX7_untaught 26 = .ok (.invokevirtual 167, 3) := by decide +kernel
theorem dX7_untaught_29 : decode cX7_untaught 29 = .ok (.aload_n 0, 1) := by decide +kernel
theorem dX7_untaught_30 : decode cX7_untaught 30 = .ok (.iload_n 1, 1) := by decide +kernel
theorem dX7_untaught_31 : decode cX7_untaught 31 = .ok (.iload_n 2, 1) := by decide +kernel
theorem dX7_untaught_32 : decode cX7_untaught 32 = .ok (.iload_n 3, 1) := by decide +kernel
theorem dX7_untaught_33 : decode cX7_untaught 33 = .ok (.invokevirtual 307, 3) := by decide +kernel
theorem dX7_untaught_36 : decode cX7_untaught 36 = .ok (.ireturn, 1) := by decide +kernel
theorem dX7_odds_0 : decode cX7_odds 0 = .ok (.iload_n 1, 1) := by decide +kernel
theorem dX7_odds_1 : decode cX7_odds 1 = .ok (.iload_n 2, 1) := by decide +kernel
theorem dX7_odds_2 : decode cX7_odds 2 = .ok (.iload_n 3, 1) := by decide +kernel
theorem dX7_odds_3 : decode cX7_odds 3 = .ok (.invokestatic 291, 3) := by decide +kernel
theorem dX7_odds_6 : decode cX7_odds 6 = .ok (.iload 4, 2) := by decide +kernel
theorem dX7_odds_8 : decode cX7_odds 8 = .ok (.iconst 1, 1) := by decide +kernel
theorem dX7_odds_9 : decode cX7_odds 9 = .ok (.if_icmp .lt 10, 3) := by decide +kernel
theorem dX7_odds_12 : decode cX7_odds 12 = .ok (.iload 4, 2) := by decide +kernel
theorem dX7_odds_14 : decode cX7_odds 14 = .ok (.bipush 20, 2) := by decide +kernel
theorem dX7_odds_16 : decode cX7_odds 16 = .ok (.if_icmp .le 14, 3) := by decide +kernel
theorem dX7_odds_19 : decode cX7_odds 19 = .ok (.new 107, 3) := by decide +kernel
theorem dX7_odds_22 : decode cX7_odds 22 = .ok (.dup, 1) := by decide +kernel
theorem dX7_odds_23 : decode cX7_odds 23 = .ok (.ldc_w 357, 3) := by decide +kernel
theorem dX7_odds_26 : decode cX7_odds 26 = .ok (.invokespecial 111, 3) := by decide +kernel
theorem dX7_odds_29 : decode cX7_odds 29 = .ok (.athrow, 1) := by decide +kernel
theorem dX7_odds_30 : decode cX7_odds 30 = .ok (.aload_n 0, 1) := by decide +kernel
theorem dX7_odds_31 : decode cX7_odds 31 = .ok (.invokevirtual 167, 3) := by decide +kernel
theorem dX7_odds_34 : decode cX7_odds 34 = .ok (.aload_n 0, 1) := by decide +kernel
theorem dX7_odds_35 : decode cX7_odds 35 = .ok (.getfield 10, 3) := by decide +kernel
theorem dX7_odds_38 : decode cX7_odds 38 = .ok (.iload_n 1, 1) := by decide +kernel
theorem dX7_odds_39 : decode cX7_odds 39 = .ok (.invokevirtual 319, 3) := by decide +kernel
theorem dX7_odds_42 : decode cX7_odds 42 = .ok (.istore 5, 2) := by decide +kernel
theorem dX7_odds_44 : decode cX7_odds 44 = .ok (.iconst 0, 1) := by decide +kernel
theorem dX7_odds_45 : decode cX7_odds 45 = .ok (.istore 6, 2) := by decide +kernel
theorem dX7_odds_47 : decode cX7_odds 47 = .ok (.iconst 1, 1) := by decide +kernel
theorem dX7_odds_48 : decode cX7_odds 48 = .ok (.istore 7, 2) := by decide +kernel
theorem dX7_odds_50 : decode cX7_odds 50 = .ok (.iload 7, 2) := by decide +kernel
theorem dX7_odds_52 : decode cX7_odds 52 = .ok (.iload 4, 2) := by decide +kernel
theorem dX7_odds_54 : decode cX7_odds 54 = .ok (.if_icmp .gt 55, 3) := by decide +kernel
theorem dX7_odds_57 : decode cX7_odds 57 = .ok (.aload_n 0, 1) := by decide +kernel
theorem dX7_odds_58 : decode cX7_odds 58 = .ok (.getfield 16, 3) := by decide +kernel
theorem dX7_odds_61 : decode cX7_odds 61 = .ok (.aload_n 0, 1) := by decide +kernel
theorem dX7_odds_62 : decode cX7_odds 62 = .ok (.getfield 10, 3) := by decide +kernel
theorem dX7_odds_65 : decode cX7_odds 65 = .ok (.invokevirtual 295, 3) := by decide +kernel
theorem dX7_odds_68 : decode cX7_odds 68 = .ok (.aload_n 0, 1) := by decide +kernel
theorem dX7_odds_69 : decode cX7_odds 69 = .ok (.getfield 16, 3) := by decide +kernel
theorem dX7_odds_72 : decode cX7_odds 72 = .ok (.iload 7, 2) := by decide +kernel
theorem dX7_odds_74 : decode cX7_odds 74 = .ok (.putfield 94, 3) := by decide +kernel
theorem dX7_odds_77 : decode cX7_odds 77 = .ok (.aload_n 0, 1) := by decide +kernel
theorem dX7_odds_78 : decode cX7_odds 78 = .ok (.getfield 16, 3) := by decide +kernel
theorem dX7_odds_81 : decode cX7_odds 81 = .ok (.iload 7, 2) := by decide +kernel
theorem dX7_odds_83 : decode cX7_odds 83 = .ok (.putfield 97, 3) := by decide +kernel
theorem dX7_odds_86 : decode cX7_odds 86 = .ok (.aload_n 0, 1) := by decide +kernel
theorem dX7_odds_87 : decode cX7_odds 87 = .ok (.iload_n 1, 1) := by decide +kernel
theorem dX7_odds_88 : decode cX7_odds 88 = .ok (.iload_n 2, 1) := by decide +kernel
theorem dX7_odds_89 : decode cX7_odds 89 = .ok (.iload_n 3, 1) := by decide +kernel
theorem dX7_odds_90 : decode cX7_odds 90 = .ok (.invokevirtual 307, 3) := by decide +kernel
theorem dX7_odds_93 : decode cX7_odds 93 = .ok (.iconst 2, 1) := by decide +kernel
theorem dX7_odds_94 : decode cX7_odds 94 = .ok (.imul, 1) := by decide +kernel
theorem dX7_odds_95 : decode cX7_odds 95 = .ok (.iload 5, 2) := by decide +kernel
theorem dX7_odds_97 : decode cX7_odds 97 = .ok (.if_icmp .lt 6, 3) := by decide +kernel
theorem dX7_odds_100 : decode cX7_odds 100 = .ok (.iinc 6 1, 3) := by decide +kernel
theorem dX7_odds_103 : decode cX7_odds 103 = .ok (.iinc 7 1, 3) := by decide +kernel
theorem dX7_odds_106 : decode cX7_odds 106 = .ok (.goto (-56), 3) := by decide +kernel
theorem dX7_odds_109 : decode cX7_odds 109 = .ok (.iload 6, 2) := by decide +kernel
theorem dX7_odds_111 : decode cX7_odds 111 = .ok (.ireturn, 1) := by decide +kernel
theorem dX7_right_0 : decode cX7_right 0 = .ok (.aload_n 0, 1) := by decide +kernel
theorem dX7_right_1 : decode cX7_right 1 = .ok (.iload_n 1, 1) := by decide +kernel
theorem dX7_right_2 : decode cX7_right 2 = .ok (.invokevirtual 121, 3) := by decide +kernel
theorem dX7_right_5 : decode cX7_right 5 = .ok (.iload_n 2, 1) := by decide +kernel
theorem dX7_right_6 : decode cX7_right 6 = .ok (.iload_n 3, 1) := by decide +kernel
theorem dX7_right_7 : decode cX7_right 7 = .ok (.if_icmp .le 14, 3) := by decide +kernel
theorem dX7_right_10 : decode cX7_right 10 = .ok (.new 107, 3) := by decide +kernel
theorem dX7_right_13 : decode cX7_right 13 = .ok (.dup, 1) := by decide +kernel
theorem dX7_right_14 : decode cX7_right 14 = .ok (.ldc_w 359, 3) := by decide +kernel
theorem dX7_right_17 : decode cX7_right 17 = .ok (.invokespecial 111, 3) := by decide +kernel
theorem dX7_right_20 : decode cX7_right 20 = .ok (.athrow, 1) := by decide +kernel
theorem dX7_right_21 : decode cX7_right 21 = .ok (.iconst 0, 1) := by decide +kernel
theorem dX7_right_22 : decode cX7_right 22 = .ok (.istore 4, 2) := by decide +kernel
theorem dX7_right_24 : decode cX7_right 24 = .ok (.iconst 0, 1) := by decide +kernel
theorem dX7_right_25 : decode cX7_right 25 = .ok (.istore 5, 2) := by decide +kernel
theorem dX7_right_27 : decode cX7_right 27 = .ok (.iload_n 2, 1) := by decide +kernel
theorem dX7_right_28 : decode cX7_right 28 = .ok (.iconst 0, 1) := by decide +kernel
theorem dX7_right_29 : decode cX7_right 29 = .ok (.invokestatic 361, 3) := by decide +kernel
theorem dX7_right_32 : decode cX7_right 32 = .ok (.istore 6, 2) := by decide +kernel
theorem dX7_right_34 : decode cX7_right 34 = .ok (.iload 6, 2) := by decide +kernel
theorem dX7_right_36 : decode cX7_right 36 = .ok (.aload_n 0, 1) := by decide +kernel
theorem dX7_right_37 : decode cX7_right 37 = .ok (.getfield 38, 3) := by decide +kernel
theorem dX7_right_40 : decode cX7_right 40 = .ok (.getfield 214, 3) := by decide +kernel
theorem dX7_right_43 : decode cX7_right 43 = .ok (.if_icmp .ge 62, 3) := by decide +kernel
theorem dX7_right_46 : decode cX7_right 46 = .ok (.iload 6, 2) := by decide +kernel
theorem dX7_right_48 : decode cX7_right 48 = .ok (.iload_n 3, 1) := by decide +kernel
theorem dX7_right_49 : decode cX7_right 49 = .ok (.if_icmp .gt 56, 3) := by decide +kernel
theorem dX7_right_52 : decode cX7_right 52 = .ok (.aload_n 0, 1) := by decide +kernel
theorem dX7_right_53 : decode cX7_right 53 = .ok (.getfield 38, 3) := by decide +kernel
theorem dX7_right_56 : decode cX7_right 56 = .ok (.iload 6, 2) := by decide +kernel
theorem dX7_right_58 : decode cX7_right 58 = .ok (.iconst 1, 1) := by decide +kernel
theorem dX7_right_59 : decode cX7_right 59 = .ok (.invokevirtual 248, 3) := by decide +kernel
theorem dX7_right_62 : decode cX7_right 62 = .ok (.iload_n 1, 1) := by decide +kernel
theorem dX7_right_63 : decode cX7_right 63 = .ok (.if_icmp .eq 17, 3) := by decide +kernel
theorem dX7_right_66 : decode cX7_right 66 = .ok (.aload_n 0, 1) := by decide +kernel
theorem dX7_right_67 : decode cX7_right 67 = .ok (.getfield 38, 3) := by decide +kernel
theorem dX7_right_70 : decode cX7_right 70 = .ok (.iload 6, 2) := by decide +kernel
theorem dX7_right_72 : decode cX7_right 72 = .ok (.iconst 2, 1) := by decide +kernel
theorem dX7_right_73 : decode cX7_right 73 = .ok (.invokevirtual 248, 3) := by decide +kernel
theorem dX7_right_76 : decode cX7_right 76 = .ok (.iload_n 1, 1) := by decide +kernel
theorem dX7_right_77 : decode cX7_right 77 = .ok (.if_icmp .ne 22, 3) := by decide +kernel
theorem dX7_right_80 : decode cX7_right 80 = .ok (.iinc 4 1, 3) := by decide +kernel
theorem dX7_right_83 : decode cX7_right 83 = .ok (.iload 5, 2) := by decide +kernel
theorem dX7_right_85 : decode cX7_right 85 = .ok (.aload_n 0, 1) := by decide +kernel
theorem dX7_right_86 : decode cX7_right 86 = .ok (.getfield 38, 3) := by decide +kernel
theorem dX7_right_89 : decode cX7_right 89 = .ok (.iload 6, 2) := by decide +kernel
theorem dX7_right_91 : decode cX7_right 91 = .ok (.bipush 14, 2) := by decide +kernel
theorem dX7_right_93 : decode cX7_right 93 = .ok (.invokevirtual 248, 3) := by decide +kernel
theorem dX7_right_96 : decode cX7_right 96 = .ok (.iadd, 1) := by decide +kernel
theorem dX7_right_97 : decode cX7_right 97 = .ok (.istore 5, 2) := by decide +kernel
theorem dX7_right_99 : decode cX7_right 99 = .ok (.iinc 6 1, 3) := by decide +kernel
theorem dX7_right_102 : decode cX7_right 102 = .ok (.goto (-68), 3) := by decide +kernel
theorem dX7_right_105 : decode cX7_right 105 = .ok (.iload 4, 2) := by decide +kernel
theorem dX7_right_107 : decode cX7_right 107 = .ok (.ifCond .ne 7, 3) := by decide +kernel
theorem dX7_right_110 : decode cX7_right 110 = .ok (.iconst (-1), 1) := by decide +kernel
theorem dX7_right_111 : decode cX7_right 111 = .ok (.goto 5, 3) := by decide +kernel
theorem dX7_right_114 : decode cX7_right 114 = .ok (.iload 5, 2) := by decide +kernel
theorem dX7_right_116 : decode cX7_right 116 = .ok (.ireturn, 1) := by decide +kernel
theorem dX7_count_0 : decode cX7_count 0 = .ok (.iload_n 1, 1) := by decide +kernel
theorem dX7_count_1 : decode cX7_count 1 = .ok (.tableswitch 183 0 11 #[63, 71, 79, 106, 114, 119, 127, 132, 157, 162, 167, 175], 63) := by decide +kernel
theorem dX7_count_64 : decode cX7_count 64 = .ok (.aload_n 0, 1) := by decide +kernel
theorem dX7_count_65 : decode cX7_count 65 = .ok (.getfield 10, 3) := by decide +kernel
theorem dX7_count_68 : decode cX7_count 68 = .ok (.getfield 184, 3) := by decide +kernel
theorem dX7_count_71 : decode cX7_count 71 = .ok (.ireturn, 1) := by decide +kernel
theorem dX7_count_72 : decode cX7_count 72 = .ok (.aload_n 0, 1) := by decide +kernel
theorem dX7_count_73 : decode cX7_count 73 = .ok (.getfield 10, 3) := by decide +kernel
theorem dX7_count_76 : decode cX7_count 76 = .ok (.getfield 114, 3) := by decide +kernel
theorem dX7_count_79 : decode cX7_count 79 = .ok (.ireturn, 1) := by decide +kernel
theorem dX7_count_80 : decode cX7_count 80 = .ok (.aload_n 0, 1) := by decide +kernel
theorem dX7_count_81 : decode cX7_count 81 = .ok (.getfield 10, 3) := by decide +kernel
theorem dX7_count_84 : decode cX7_count 84 = .ok (.iconst 0, 1) := by decide +kernel
theorem dX7_count_85 : decode cX7_count 85 = .ok (.invokevirtual 319, 3) := by decide +kernel
theorem dX7_count_88 : decode cX7_count 88 = .ok (.aload_n 0, 1) := by decide +kernel
theorem dX7_count_89 : decode cX7_count 89 = .ok (.getfield 10, 3) := by decide +kernel
theorem dX7_count_92 : decode cX7_count 92 = .ok (.iconst 1, 1) := by decide +kernel
theorem dX7_count_93 : decode cX7_count 93 = .ok (.invokevirtual 319, 3) := by decide +kernel
theorem dX7_count_96 : decode cX7_count 96 = .ok (.iadd, 1) := by decide +kernel
theorem dX7_count_97 : decode cX7_count 97 = .ok (.aload_n 0, 1) := by decide +kernel
theorem dX7_count_98 : decode cX7_count 98 = .ok (.getfield 10, 3) := by decide +kernel
theorem dX7_count_101 : decode cX7_count 101 = .ok (.iconst 2, 1) := by decide +kernel
theorem dX7_count_102 : decode cX7_count 102 = .ok (.invokevirtual 319, 3) := by decide +kernel
theorem dX7_count_105 : decode cX7_count 105 = .ok (.iadd, 1) := by decide +kernel
theorem dX7_count_106 : decode cX7_count 106 = .ok (.ireturn, 1) := by decide +kernel
theorem dX7_count_107 : decode cX7_count 107 = .ok (.aload_n 0, 1) := by decide +kernel
theorem dX7_count_108 : decode cX7_count 108 = .ok (.getfield 38, 3) := by decide +kernel
theorem dX7_count_111 : decode cX7_count 111 = .ok (.getfield 214, 3) := by decide +kernel
theorem dX7_count_114 : decode cX7_count 114 = .ok (.ireturn, 1) := by decide +kernel
theorem dX7_count_115 : decode cX7_count 115 = .ok (.aload_n 0, 1) := by decide +kernel
theorem dX7_count_116 : decode cX7_count 116 = .ok (.getfield 80, 3) := by decide +kernel
theorem dX7_count_119 : decode cX7_count 119 = .ok (.ireturn, 1) := by decide +kernel
theorem dX7_count_120 : decode cX7_count 120 = .ok (.aload_n 0, 1) := by decide +kernel
theorem dX7_count_121 : decode cX7_count 121 = .ok (.getfield 10, 3) := by decide +kernel
theorem dX7_count_124 : decode cX7_count 124 = .ok (.getfield 205, 3) := by decide +kernel
theorem dX7_count_127 : decode cX7_count 127 = .ok (.ireturn, 1) := by decide +kernel
theorem dX7_count_128 : decode cX7_count 128 = .ok (.aload_n 0, 1) := by decide +kernel
theorem dX7_count_129 : decode cX7_count 129 = .ok (.getfield 83, 3) := by decide +kernel
theorem dX7_count_132 : decode cX7_count 132 = .ok (.ireturn, 1) := by decide +kernel
theorem dX7_count_133 : decode cX7_count 133 = .ok (.aload_n 0, 1) := by decide +kernel
theorem dX7_count_134 : decode cX7_count 134 = .ok (.getfield 86, 3) := by decide +kernel
theorem dX7_count_137 : decode cX7_count 137 = .ok (.iconst (-1), 1) := by decide +kernel
theorem dX7_count_138 : decode cX7_count 138 = .ok (.if_icmp .ne 7, 3) := by decide +kernel
theorem dX7_count_141 : decode cX7_count 141 = .ok (.iconst (-1), 1) := by decide +kernel
theorem dX7_count_142 : decode cX7_count 142 = .ok (.goto 15, 3) := by decide +kernel
theorem dX7_count_145 : decode cX7_count 145 = .ok (.aload_n 0, 1) := by decide +kernel
theorem dX7_count_146 : decode cX7_count 146 = .ok (.getfield 25, 3) := by decide +kernel
theorem dX7_count_149 : decode cX7_count 149 = .ok (.aload_n 0, 1) := by decide +kernel
theorem dX7_count_150 : decode cX7_count 150 = .ok (.getfield 86, 3) := by decide +kernel
theorem dX7_count_153 : decode cX7_count 153 = .ok (.aaload, 1) := by decide +kernel
theorem dX7_count_154 : decode cX7_count 154 = .ok (.getfield 277, 3) := by decide +kernel
theorem dX7_count_157 : decode cX7_count 157 = .ok (.ireturn, 1) := by decide +kernel
theorem dX7_count_158 : decode cX7_count 158 = .ok (.aload_n 0, 1) := by decide +kernel
theorem dX7_count_159 : decode cX7_count 159 = .ok (.getfield 89, 3) := by decide +kernel
theorem dX7_count_162 : decode cX7_count 162 = .ok (.ireturn, 1) := by decide +kernel
theorem dX7_count_163 : decode cX7_count 163 = .ok (.aload_n 0, 1) := by decide +kernel
theorem dX7_count_164 : decode cX7_count 164 = .ok (.getfield 73, 3) := by decide +kernel
theorem dX7_count_167 : decode cX7_count 167 = .ok (.ireturn, 1) := by decide +kernel
theorem dX7_count_168 : decode cX7_count 168 = .ok (.aload_n 0, 1) := by decide +kernel
theorem dX7_count_169 : decode cX7_count 169 = .ok (.getfield 10, 3) := by decide +kernel
theorem dX7_count_172 : decode cX7_count 172 = .ok (.getfield 97, 3) := by decide +kernel
theorem dX7_count_175 : decode cX7_count 175 = .ok (.ireturn, 1) := by decide +kernel
theorem dX7_count_176 : decode cX7_count 176 = .ok (.aload_n 0, 1) := by decide +kernel
theorem dX7_count_177 : decode cX7_count 177 = .ok (.getfield 10, 3) := by decide +kernel
theorem dX7_count_180 : decode cX7_count 180 = .ok (.getfield 94, 3) := by decide +kernel
theorem dX7_count_183 : decode cX7_count 183 = .ok (.ireturn, 1) := by decide +kernel
theorem dX7_count_184 : decode cX7_count 184 = .ok (.iconst (-1), 1) := by decide +kernel
theorem dX7_count_185 : decode cX7_count 185 = .ok (.ireturn, 1) := by decide +kernel
theorem dX7_checkChild_0 : decode cX7_checkChild 0 = .ok (.iload_n 1, 1) := by decide +kernel
theorem dX7_checkChild_1 : decode cX7_checkChild 1 = .ok (.ifCond .lt 14, 3) := by decide +kernel
theorem dX7_checkChild_4 : decode cX7_checkChild 4 = .ok (.iload_n 1, 1) := by decide +kernel
theorem dX7_checkChild_5 : decode cX7_checkChild 5 = .ok (.aload_n 0, 1) := by decide +kernel
theorem dX7_checkChild_6 : decode cX7_checkChild 6 = .ok (.getfield 10, 3) := by decide +kernel
theorem dX7_checkChild_9 : decode cX7_checkChild 9 = .ok (.getfield 114, 3) := by decide +kernel
theorem dX7_checkChild_12 : decode cX7_checkChild 12 = .ok (.if_icmp .lt 14, 3) := by decide +kernel
theorem dX7_checkChild_15 : decode cX7_checkChild 15 = .ok (.new 366, 3) := by decide +kernel
theorem dX7_checkChild_18 : decode cX7_checkChild 18 = .ok (.dup, 1) := by decide +kernel
theorem dX7_checkChild_19 : decode cX7_checkChild 19 = .ok (.ldc_w 368, 3) := by decide +kernel
theorem dX7_checkChild_22 : decode cX7_checkChild 22 = .ok (.invokespecial 370, 3) := by decide +kernel
theorem dX7_checkChild_25 : decode cX7_checkChild 25 = .ok (.athrow, 1) := by decide +kernel
theorem dX7_checkChild_26 : decode cX7_checkChild 26 = .ok (.return_, 1) := by decide +kernel
theorem dX7_checkLaw_0 : decode cX7_checkLaw 0 = .ok (.iload_n 1, 1) := by decide +kernel
theorem dX7_checkLaw_1 : decode cX7_checkLaw 1 = .ok (.iconst (-1), 1) := by decide +kernel
theorem dX7_checkLaw_2 : decode cX7_checkLaw 2 = .ok (.if_icmp .lt 11, 3) := by decide +kernel
theorem dX7_checkLaw_5 : decode cX7_checkLaw 5 = .ok (.iload_n 1, 1) := by decide +kernel
theorem dX7_checkLaw_6 : decode cX7_checkLaw 6 = .ok (.aload_n 0, 1) := by decide +kernel
theorem dX7_checkLaw_7 : decode cX7_checkLaw 7 = .ok (.getfield 80, 3) := by decide +kernel
theorem dX7_checkLaw_10 : decode cX7_checkLaw 10 = .ok (.if_icmp .lt 14, 3) := by decide +kernel
theorem dX7_checkLaw_13 : decode cX7_checkLaw 13 = .ok (.new 243, 3) := by decide +kernel
theorem dX7_checkLaw_16 : decode cX7_checkLaw 16 = .ok (.dup, 1) := by decide +kernel
theorem dX7_checkLaw_17 : decode cX7_checkLaw 17 = .ok (.ldc_w 371, 3) := by decide +kernel
theorem dX7_checkLaw_20 : decode cX7_checkLaw 20 = .ok (.invokespecial 247, 3) := by decide +kernel
theorem dX7_checkLaw_23 : decode cX7_checkLaw 23 = .ok (.athrow, 1) := by decide +kernel
theorem dX7_checkLaw_24 : decode cX7_checkLaw 24 = .ok (.return_, 1) := by decide +kernel
theorem dX7_checkFilm_0 : decode cX7_checkFilm 0 = .ok (.iload_n 1, 1) := by decide +kernel
theorem dX7_checkFilm_1 : decode cX7_checkFilm 1 = .ok (.ifCond .lt 11, 3) := by decide +kernel
theorem dX7_checkFilm_4 : decode cX7_checkFilm 4 = .ok (.iload_n 1, 1) := by decide +kernel
theorem dX7_checkFilm_5 : decode cX7_checkFilm 5 = .ok (.aload_n 0, 1) := by decide +kernel
theorem dX7_checkFilm_6 : decode cX7_checkFilm 6 = .ok (.getfield 83, 3) := by decide +kernel
theorem dX7_checkFilm_9 : decode cX7_checkFilm 9 = .ok (.if_icmp .lt 14, 3) := by decide +kernel
theorem dX7_checkFilm_12 : decode cX7_checkFilm 12 = .ok (.new 243, 3) := by decide +kernel
theorem dX7_checkFilm_15 : decode cX7_checkFilm 15 = .ok (.dup, 1) := by decide +kernel
theorem dX7_checkFilm_16 : decode cX7_checkFilm 16 = .ok (.ldc_w 373, 3) := by decide +kernel
theorem dX7_checkFilm_19 : decode cX7_checkFilm 19 = .ok (.invokespecial 247, 3) := by decide +kernel
theorem dX7_checkFilm_22 : decode cX7_checkFilm 22 = .ok (.athrow, 1) := by decide +kernel
theorem dX7_checkFilm_23 : decode cX7_checkFilm 23 = .ok (.return_, 1) := by decide +kernel
theorem dX7_checkYard_0 : decode cX7_checkYard 0 = .ok (.iload_n 0, 1) := by decide +kernel
theorem dX7_checkYard_1 : decode cX7_checkYard 1 = .ok (.ifCond .lt 8, 3) := by decide +kernel
theorem dX7_checkYard_4 : decode cX7_checkYard 4 = .ok (.iload_n 0, 1) := by decide +kernel
theorem dX7_checkYard_5 : decode cX7_checkYard 5 = .ok (.iconst 3, 1) := by decide +kernel
theorem dX7_checkYard_6 : decode cX7_checkYard 6 = .ok (.if_icmp .lt 14, 3) := by decide +kernel
theorem dX7_checkYard_9 : decode cX7_checkYard 9 = .ok (.new 107, 3) := by decide +kernel
theorem dX7_checkYard_12 : decode cX7_checkYard 12 = .ok (.dup, 1) := by decide +kernel
theorem dX7_checkYard_13 : decode cX7_checkYard 13 = .ok (.ldc_w 375, 3) := by decide +kernel
theorem dX7_checkYard_16 : decode cX7_checkYard 16 = .ok (.invokespecial 111, 3) := by decide +kernel
theorem dX7_checkYard_19 : decode cX7_checkYard 19 = .ok (.athrow, 1) := by decide +kernel
theorem dX7_checkYard_20 : decode cX7_checkYard 20 = .ok (.return_, 1) := by decide +kernel
theorem dX7_checkConcept_0 : decode cX7_checkConcept 0 = .ok (.iload_n 0, 1) := by decide +kernel
theorem dX7_checkConcept_1 : decode cX7_checkConcept 1 = .ok (.ifCond .lt 9, 3) := by decide +kernel
theorem dX7_checkConcept_4 : decode cX7_checkConcept 4 = .ok (.iload_n 0, 1) := by decide +kernel
theorem dX7_checkConcept_5 : decode cX7_checkConcept 5 = .ok (.bipush 8, 2) := by decide +kernel
theorem dX7_checkConcept_7 : decode cX7_checkConcept 7 = .ok (.if_icmp .lt 14, 3) := by decide +kernel
theorem dX7_checkConcept_10 : decode cX7_checkConcept 10 = .ok (.new 107, 3) := by decide +kernel
theorem dX7_checkConcept_13 : decode cX7_checkConcept 13 = .ok (.dup, 1) := by decide +kernel
theorem dX7_checkConcept_14 : decode cX7_checkConcept 14 = .ok (.ldc_w 377, 3) := by decide +kernel
theorem dX7_checkConcept_17 : decode cX7_checkConcept 17 = .ok (.invokespecial 111, 3) := by decide +kernel
theorem dX7_checkConcept_20 : decode cX7_checkConcept 20 = .ok (.athrow, 1) := by decide +kernel
theorem dX7_checkConcept_21 : decode cX7_checkConcept 21 = .ok (.return_, 1) := by decide +kernel
theorem dX7_checkSign_0 : decode cX7_checkSign 0 = .ok (.iload_n 0, 1) := by decide +kernel
theorem dX7_checkSign_1 : decode cX7_checkSign 1 = .ok (.ifCond .lt 9, 3) := by decide +kernel
theorem dX7_checkSign_4 : decode cX7_checkSign 4 = .ok (.iload_n 0, 1) := by decide +kernel
theorem dX7_checkSign_5 : decode cX7_checkSign 5 = .ok (.bipush 16, 2) := by decide +kernel
theorem dX7_checkSign_7 : decode cX7_checkSign 7 = .ok (.if_icmp .lt 14, 3) := by decide +kernel
theorem dX7_checkSign_10 : decode cX7_checkSign 10 = .ok (.new 107, 3) := by decide +kernel
theorem dX7_checkSign_13 : decode cX7_checkSign 13 = .ok (.dup, 1) := by decide +kernel
theorem dX7_checkSign_14 : decode cX7_checkSign 14 = .ok (.ldc_w 379, 3) := by decide +kernel
theorem dX7_checkSign_17 : decode cX7_checkSign 17 = .ok (.invokespecial 111, 3) := by decide +kernel
theorem dX7_checkSign_20 : decode cX7_checkSign 20 = .ok (.athrow, 1) := by decide +kernel
theorem dX7_checkSign_21 : decode cX7_checkSign 21 = .ok (.return_, 1) := by decide +kernel
theorem dX7_checkOrder_0 : decode cX7_checkOrder 0 = .ok (.iload_n 0, 1) := by decide +kernel
theorem dX7_checkOrder_1 : decode cX7_checkOrder 1 = .ok (.ifCond .lt 9, 3) := by decide +kernel
theorem dX7_checkOrder_4 : decode cX7_checkOrder 4 = .ok (.iload_n 0, 1) := by decide +kernel
theorem dX7_checkOrder_5 : decode cX7_checkOrder 5 = .ok (.bipush 6, 2) := by decide +kernel
theorem dX7_checkOrder_7 : decode cX7_checkOrder 7 = .ok (.if_icmp .lt 14, 3) := by decide +kernel
theorem dX7_checkOrder_10 : decode cX7_checkOrder 10 = .ok (.new 107, 3) := by decide +kernel
theorem dX7_checkOrder_13 : decode cX7_checkOrder 13 = .ok (.dup, 1) := by decide +kernel
theorem dX7_checkOrder_14 : decode cX7_checkOrder 14 = .ok (.ldc_w 381, 3) := by decide +kernel
theorem dX7_checkOrder_17 : decode cX7_checkOrder 17 = .ok (.invokespecial 111, 3) := by decide +kernel
theorem dX7_checkOrder_20 : decode cX7_checkOrder 20 = .ok (.athrow, 1) := by decide +kernel
theorem dX7_checkOrder_21 : decode cX7_checkOrder 21 = .ok (.return_, 1) := by decide +kernel
theorem dX7_checkKind_0 : decode cX7_checkKind 0 = .ok (.iload_n 0, 1) := by decide +kernel
theorem dX7_checkKind_1 : decode cX7_checkKind 1 = .ok (.iconst (-1), 1) := by decide +kernel
theorem dX7_checkKind_2 : decode cX7_checkKind 2 = .ok (.if_icmp .lt 8, 3) := by decide +kernel
theorem dX7_checkKind_5 : decode cX7_checkKind 5 = .ok (.iload_n 0, 1) := by decide +kernel
theorem dX7_checkKind_6 : decode cX7_checkKind 6 = .ok (.iconst 3, 1) := by decide +kernel
theorem dX7_checkKind_7 : decode cX7_checkKind 7 = .ok (.if_icmp .le 14, 3) := by decide +kernel
theorem dX7_checkKind_10 : decode cX7_checkKind 10 = .ok (.new 107, 3) := by decide +kernel
theorem dX7_checkKind_13 : decode cX7_checkKind 13 = .ok (.dup, 1) := by decide +kernel
theorem dX7_checkKind_14 : decode cX7_checkKind 14 = .ok (.ldc_w 383, 3) := by decide +kernel
theorem dX7_checkKind_17 : decode cX7_checkKind 17 = .ok (.invokespecial 111, 3) := by decide +kernel
theorem dX7_checkKind_20 : decode cX7_checkKind 20 = .ok (.athrow, 1) := by decide +kernel
theorem dX7_checkKind_21 : decode cX7_checkKind 21 = .ok (.return_, 1) := by decide +kernel
theorem dX7_checkRunLength_0 : decode cX7_checkRunLength 0 = .ok (.iload_n 0, 1) := by decide +kernel
theorem dX7_checkRunLength_1 : decode cX7_checkRunLength 1 = .ok (.ifCond .lt 10, 3) := by decide +kernel
theorem dX7_checkRunLength_4 : decode cX7_checkRunLength 4 = .ok (.iload_n 0, 1) := by decide +kernel
theorem dX7_checkRunLength_5 : decode cX7_checkRunLength 5 = .ok (.sipush 200, 3) := by decide +kernel
theorem dX7_checkRunLength_8 : decode cX7_checkRunLength 8 = .ok (.if_icmp .le 14, 3) := by decide +kernel
theorem dX7_checkRunLength_11 : decode cX7_checkRunLength 11 = .ok (.new 107, 3) := by decide +kernel
theorem dX7_checkRunLength_14 : decode cX7_checkRunLength 14 = .ok (.dup, 1) := by decide +kernel
theorem dX7_checkRunLength_15 : decode cX7_checkRunLength 15 = .ok (.ldc_w 385, 3) := by decide +kernel
theorem dX7_checkRunLength_18 : decode cX7_checkRunLength 18 = .ok (.invokespecial 111, 3) := by decide +kernel
theorem dX7_checkRunLength_21 : decode cX7_checkRunLength 21 = .ok (.athrow, 1) := by decide +kernel
theorem dX7_checkRunLength_22 : decode cX7_checkRunLength 22 = .ok (.return_, 1) := by decide +kernel
theorem dX7_checkTrial_0 : decode cX7_checkTrial 0 = .ok (.iload_n 0, 1) := by decide +kernel
theorem dX7_checkTrial_1 : decode cX7_checkTrial 1 = .ok (.invokestatic 103, 3) := by decide +kernel
theorem dX7_checkTrial_4 : decode cX7_checkTrial 4 = .ok (.iload_n 1, 1) := by decide +kernel
theorem dX7_checkTrial_5 : decode cX7_checkTrial 5 = .ok (.invokestatic 232, 3) := by decide +kernel
theorem dX7_checkTrial_8 : decode cX7_checkTrial 8 = .ok (.iload_n 2, 1) := by decide +kernel
theorem dX7_checkTrial_9 : decode cX7_checkTrial 9 = .ok (.invokestatic 161, 3) := by decide +kernel
theorem dX7_checkTrial_12 : decode cX7_checkTrial 12 = .ok (.return_, 1) := by decide +kernel
theorem dX7_isOfFour_0 : decode cX7_isOfFour 0 = .ok (.iload_n 0, 1) := by decide +kernel
theorem dX7_isOfFour_1 : decode cX7_isOfFour 1 = .ok (.ifCond .lt 12, 3) := by decide +kernel
theorem dX7_isOfFour_4 : decode cX7_isOfFour 4 = .ok (.iload_n 0, 1) := by decide +kernel
theorem dX7_isOfFour_5 : decode cX7_isOfFour 5 = .ok (.iconst 4, 1) := by decide +kernel
theorem dX7_isOfFour_6 : decode cX7_isOfFour 6 = .ok (.if_icmp .ge 7, 3) := by decide +kernel
theorem dX7_isOfFour_9 : decode cX7_isOfFour 9 = .ok (.iconst 1, 1) := by decide +kernel
theorem dX7_isOfFour_10 : decode cX7_isOfFour 10 = .ok (.goto 4, 3) := by decide +kernel
theorem dX7_isOfFour_13 : decode cX7_isOfFour 13 = .ok (.iconst 0, 1) := by decide +kernel
theorem dX7_isOfFour_14 : decode cX7_isOfFour 14 = .ok (.ireturn, 1) := by decide +kernel
theorem dX7_signIndex_0 : decode cX7_signIndex 0 = .ok (.iload_n 0, 1) := by decide +kernel
theorem dX7_signIndex_1 : decode cX7_signIndex 1 = .ok (.bipush 8, 2) := by decide +kernel
theorem dX7_signIndex_3 : decode cX7_signIndex 3 = .ok (.imul, 1) := by decide +kernel
theorem dX7_signIndex_4 : decode cX7_signIndex 4 = .ok (.iload_n 1, 1) := by decide +kernel
theorem dX7_signIndex_5 : decode cX7_signIndex 5 = .ok (.iadd, 1) := by decide +kernel
theorem dX7_signIndex_6 : decode cX7_signIndex 6 = .ok (.bipush 16, 2) := by decide +kernel
theorem dX7_signIndex_8 : decode cX7_signIndex 8 = .ok (.imul, 1) := by decide +kernel
theorem dX7_signIndex_9 : decode cX7_signIndex 9 = .ok (.iload_n 2, 1) := by decide +kernel
theorem dX7_signIndex_10 : decode cX7_signIndex 10 = .ok (.iadd, 1) := by decide +kernel
theorem dX7_signIndex_11 : decode cX7_signIndex 11 = .ok (.ireturn, 1) := by decide +kernel
theorem dX7_roleAt_0 : decode cX7_roleAt 0 = .ok (.getstatic 387, 3) := by decide +kernel
theorem dX7_roleAt_3 : decode cX7_roleAt 3 = .ok (.iload_n 0, 1) := by decide +kernel
theorem dX7_roleAt_4 : decode cX7_roleAt 4 = .ok (.iconst 3, 1) := by decide +kernel
theorem dX7_roleAt_5 : decode cX7_roleAt 5 = .ok (.imul, 1) := by decide +kernel
theorem dX7_roleAt_6 : decode cX7_roleAt 6 = .ok (.iload_n 1, 1) := by decide +kernel
theorem dX7_roleAt_7 : decode cX7_roleAt 7 = .ok (.iadd, 1) := by decide +kernel
theorem dX7_roleAt_8 : decode cX7_roleAt 8 = .ok (.iaload, 1) := by decide +kernel
theorem dX7_roleAt_9 : decode cX7_roleAt 9 = .ok (.ireturn, 1) := by decide +kernel
theorem dX7_conceptOf_0 : decode cX7_conceptOf 0 = .ok (.iload_n 0, 1) := by decide +kernel
theorem dX7_conceptOf_1 : decode cX7_conceptOf 1 = .ok (.iconst 1, 1) := by decide +kernel
theorem dX7_conceptOf_2 : decode cX7_conceptOf 2 = .ok (.if_icmp .ne 9, 3) := by decide +kernel
theorem dX7_conceptOf_5 : decode cX7_conceptOf 5 = .ok (.iconst 4, 1) := by decide +kernel
theorem dX7_conceptOf_6 : decode cX7_conceptOf 6 = .ok (.iload_n 1, 1) := by decide +kernel
theorem dX7_conceptOf_7 : decode cX7_conceptOf 7 = .ok (.iadd, 1) := by decide +kernel
theorem dX7_conceptOf_8 : decode cX7_conceptOf 8 = .ok (.goto 4, 3) := by decide +kernel
theorem dX7_conceptOf_11 : decode cX7_conceptOf 11 = .ok (.iload_n 1, 1) := by decide +kernel
theorem dX7_conceptOf_12 : decode cX7_conceptOf 12 = .ok (.ireturn, 1) := by decide +kernel
theorem dX7_keepInBounds_0 : decode cX7_keepInBounds 0 = .ok (.iconst 0, 1) := by decide +kernel
theorem dX7_keepInBounds_1 : decode cX7_keepInBounds 1 = .ok (.sipush 999, 3) := by decide +kernel
theorem dX7_keepInBounds_4 : decode cX7_keepInBounds 4 = .ok (.iload_n 0, 1) := by decide +kernel
theorem dX7_keepInBounds_5 : decode cX7_keepInBounds 5 = .ok (.invokestatic 390, 3) := by decide +kernel
theorem dX7_keepInBounds_8 : decode cX7_keepInBounds 8 = .ok (.invokestatic 361, 3) := by decide +kernel
theorem dX7_keepInBounds_11 : decode cX7_keepInBounds 11 = .ok (.ireturn, 1) := by decide +kernel
theorem dX7_putBytes_0 : decode cX7_putBytes 0 = .ok (.bipush 24, 2) := by decide +kernel
theorem dX7_putBytes_2 : decode cX7_putBytes 2 = .ok (.istore_n 2, 1) := by decide +kernel
theorem dX7_putBytes_3 : decode cX7_putBytes 3 = .ok (.iload_n 2, 1) := by decide +kernel
theorem dX7_putBytes_4 : decode cX7_putBytes 4 = .ok (.ifCond .lt 35, 3) := by decide +kernel
theorem dX7_putBytes_7 : decode cX7_putBytes 7 = .ok (.aload_n 0, 1) := by decide +kernel
theorem dX7_putBytes_8 : decode cX7_putBytes 8 = .ok (.getfield 63, 3) := by decide +kernel
theorem dX7_putBytes_11 : decode cX7_putBytes 11 = .ok (.aload_n 0, 1) := by decide +kernel
theorem dX7_putBytes_12 : decode cX7_putBytes 12 = .ok (.getfield 73, 3) := by decide +kernel
theorem dX7_putBytes_15 : decode cX7_putBytes 15 = .ok (.iload_n 1, 1) := by decide +kernel
theorem dX7_putBytes_16 : decode cX7_putBytes 16 = .ok (.iload_n 2, 1) := by decide +kernel
theorem dX7_putBytes_17 : decode cX7_putBytes 17 = .ok (.iushr, 1) := by decide +kernel
theorem dX7_putBytes_18 : decode cX7_putBytes 18 = .ok (.sipush 255, 3) := by decide +kernel
theorem dX7_putBytes_21 : decode cX7_putBytes 21 = .ok (.iand, 1) := by decide +kernel
theorem dX7_putBytes_22 : decode cX7_putBytes 22 = .ok (.iastore, 1) := by decide +kernel
theorem dX7_putBytes_23 : decode cX7_putBytes 23 = .ok (.aload_n 0, 1) := by decide +kernel
theorem dX7_putBytes_24 : decode cX7_putBytes 24 = .ok (.dup, 1) := by decide +kernel
theorem dX7_putBytes_25 : decode cX7_putBytes 25 = .ok (.getfield 73, 3) := by decide +kernel
theorem dX7_putBytes_28 : decode cX7_putBytes 28 = .ok (.iconst 1, 1) := by decide +kernel
theorem dX7_putBytes_29 : decode cX7_putBytes 29 = .ok (.iadd, 1) := by decide +kernel
theorem dX7_putBytes_30 : decode cX7_putBytes 30 = .ok (.putfield 73, 3) := by decide +kernel
theorem dX7_putBytes_33 : decode cX7_putBytes 33 = .ok (.iinc 2 (-8), 3) := by decide +kernel
theorem dX7_putBytes_36 : decode cX7_putBytes 36 = .ok (.goto (-33), 3) := by decide +kernel
theorem dX7_putBytes_39 : decode cX7_putBytes 39 = .ok (.return_, 1) := by decide +kernel
theorem dX7_stopFilm_0 : decode cX7_stopFilm 0 = .ok (.aload_n 0, 1) := by decide +kernel
theorem dX7_stopFilm_1 : decode cX7_stopFilm 1 = .ok (.iconst (-1), 1) := by decide +kernel
theorem dX7_stopFilm_2 : decode cX7_stopFilm 2 = .ok (.putfield 86, 3) := by decide +kernel
theorem dX7_stopFilm_5 : decode cX7_stopFilm 5 = .ok (.return_, 1) := by decide +kernel
theorem dX7_lawOf_0 : decode cX7_lawOf 0 = .ok (.iload_n 1, 1) := by decide +kernel
theorem dX7_lawOf_1 : decode cX7_lawOf 1 = .ok (.ifCond .lt 11, 3) := by decide +kernel
theorem dX7_lawOf_4 : decode cX7_lawOf 4 = .ok (.iload_n 1, 1) := by decide +kernel
theorem dX7_lawOf_5 : decode cX7_lawOf 5 = .ok (.aload_n 0, 1) := by decide +kernel
theorem dX7_lawOf_6 : decode cX7_lawOf 6 = .ok (.getfield 80, 3) := by decide +kernel
theorem dX7_lawOf_9 : decode cX7_lawOf 9 = .ok (.if_icmp .lt 7, 3) := by decide +kernel
theorem dX7_lawOf_12 : decode cX7_lawOf 12 = .ok (.aconst_null, 1) := by decide +kernel
theorem dX7_lawOf_13 : decode cX7_lawOf 13 = .ok (.goto 9, 3) := by decide +kernel
theorem dX7_lawOf_16 : decode cX7_lawOf 16 = .ok (.aload_n 0, 1) := by decide +kernel
theorem dX7_lawOf_17 : decode cX7_lawOf 17 = .ok (.getfield 31, 3) := by decide +kernel
theorem dX7_lawOf_20 : decode cX7_lawOf 20 = .ok (.iload_n 1, 1) := by decide +kernel
theorem dX7_lawOf_21 : decode cX7_lawOf 21 = .ok (.aaload, 1) := by decide +kernel
theorem dX7_lawOf_22 : decode cX7_lawOf 22 = .ok (.areturn, 1) := by decide +kernel
theorem dX7_useLawInForce_0 : decode cX7_useLawInForce 0 = .ok (.aload_n 0, 1) := by decide +kernel
theorem dX7_useLawInForce_1 : decode cX7_useLawInForce 1 = .ok (.getfield 52, 3) := by decide +kernel
theorem dX7_useLawInForce_4 : decode cX7_useLawInForce 4 = .ok (.aload_n 0, 1) := by decide +kernel
theorem dX7_useLawInForce_5 : decode cX7_useLawInForce 5 = .ok (.aload_n 0, 1) := by decide +kernel
theorem dX7_useLawInForce_6 : decode cX7_useLawInForce 6 = .ok (.getfield 10, 3) := by decide +kernel
theorem dX7_useLawInForce_9 : decode cX7_useLawInForce 9 = .ok (.getfield 205, 3) := by decide +kernel
theorem dX7_useLawInForce_12 : decode cX7_useLawInForce 12 = .ok (.invokevirtual 299, 3) := by decide +kernel
theorem dX7_useLawInForce_15 : decode cX7_useLawInForce 15 = .ok (.iconst (-1), 1) := by decide +kernel
theorem dX7_useLawInForce_16 : decode cX7_useLawInForce 16 = .ok (.invokevirtual 303, 3) := by decide +kernel
theorem dX7_useLawInForce_19 : decode cX7_useLawInForce 19 = .ok (.return_, 1) := by decide +kernel
theorem dX7_countOrdersHeld_0 : decode cX7_countOrdersHeld 0 = .ok (.aload_n 0, 1) := by decide +kernel
theorem dX7_countOrdersHeld_1 : decode cX7_countOrdersHeld 1 = .ok (.invokevirtual 167, 3) := by decide +kernel
theorem dX7_countOrdersHeld_4 : decode cX7_countOrdersHeld 4 = .ok (.iconst 0, 1) := by decide +kernel
theorem dX7_countOrdersHeld_5 : decode cX7_countOrdersHeld 5 = .ok (.istore_n 2, 1) := by decide +kernel
theorem dX7_countOrdersHeld_6 : decode cX7_countOrdersHeld 6 = .ok (.iconst 0, 1) := by decide +kernel
theorem dX7_countOrdersHeld_7 : decode cX7_countOrdersHeld 7 = .ok (.istore_n 3, 1) := by decide +kernel
theorem dX7_countOrdersHeld_8 : decode cX7_countOrdersHeld 8 = .ok (.iload_n 3, 1) := by decide +kernel
theorem dX7_countOrdersHeld_9 : decode cX7_countOrdersHeld 9 = .ok (.bipush 6, 2) := by decide +kernel
theorem dX7_countOrdersHeld_11 : decode cX7_countOrdersHeld 11 = .ok (.if_icmp .ge 28, 3) := by decide +kernel
theorem dX7_countOrdersHeld_14 : decode cX7_countOrdersHeld 14 = .ok (.aload_n 0, 1) := by decide +kernel
theorem dX7_countOrdersHeld_15 : decode cX7_countOrdersHeld 15 = .ok (.getfield 52, 3) := by decide +kernel
theorem dX7_countOrdersHeld_18 : decode cX7_countOrdersHeld 18 = .ok (.aload_n 0, 1) := by decide +kernel
theorem dX7_countOrdersHeld_19 : decode cX7_countOrdersHeld 19 = .ok (.getfield 10, 3) := by decide +kernel
theorem dX7_countOrdersHeld_22 : decode cX7_countOrdersHeld 22 = .ok (.iload_n 1, 1) := by decide +kernel
theorem dX7_countOrdersHeld_23 : decode cX7_countOrdersHeld 23 = .ok (.iload_n 3, 1) := by decide +kernel
theorem dX7_countOrdersHeld_24 : decode cX7_countOrdersHeld 24 = .ok (.invokevirtual 170, 3) := by decide +kernel
theorem dX7_countOrdersHeld_27 : decode cX7_countOrdersHeld 27 = .ok (.ifCond .eq 6, 3) := by decide +kernel
theorem dX7_countOrdersHeld_30 : decode cX7_countOrdersHeld 30 = .ok (.iinc 2 1, 3) := by decide +kernel
theorem dX7_countOrdersHeld_33 : decode cX7_countOrdersHeld 33 = .ok (.iinc 3 1, 3) := by decide +kernel
theorem dX7_countOrdersHeld_36 : decode cX7_countOrdersHeld 36 = .ok (.goto (-28), 3) := by decide +kernel
theorem dX7_countOrdersHeld_39 : decode cX7_countOrdersHeld 39 = .ok (.iload_n 2, 1) := by decide +kernel
theorem dX7_countOrdersHeld_40 : decode cX7_countOrdersHeld 40 = .ok (.ireturn, 1) := by decide +kernel
theorem dX7_countHolders_0 : decode cX7_countHolders 0 = .ok (.iconst 0, 1) := by decide +kernel
theorem dX7_countHolders_1 : decode cX7_countHolders 1 = .ok (.istore 4, 2) := by decide +kernel
theorem dX7_countHolders_3 : decode cX7_countHolders 3 = .ok (.iconst 0, 1) := by decide +kernel
theorem dX7_countHolders_4 : decode cX7_countHolders 4 = .ok (.istore 5, 2) := by decide +kernel
theorem dX7_countHolders_6 : decode cX7_countHolders 6 = .ok (.iload 5, 2) := by decide +kernel
theorem dX7_countHolders_8 : decode cX7_countHolders 8 = .ok (.aload_n 1, 1) := by decide +kernel
theorem dX7_countHolders_9 : decode cX7_countHolders 9 = .ok (.getfield 114, 3) := by decide +kernel
theorem dX7_countHolders_12 : decode cX7_countHolders 12 = .ok (.if_icmp .ge 36, 3) := by decide +kernel
theorem dX7_countHolders_15 : decode cX7_countHolders 15 = .ok (.aload_n 1, 1) := by decide +kernel
theorem dX7_countHolders_16 : decode cX7_countHolders 16 = .ok (.iload 5, 2) := by decide +kernel
theorem dX7_countHolders_18 : decode cX7_countHolders 18 = .ok (.iload_n 2, 1) := by decide +kernel
theorem dX7_countHolders_19 : decode cX7_countHolders 19 = .ok (.invokevirtual 393, 3) := by decide +kernel
theorem dX7_countHolders_22 : decode cX7_countHolders 22 = .ok (.ifCond .eq 20, 3) := by decide +kernel
theorem dX7_countHolders_25 : decode cX7_countHolders 25 = .ok (.aload_n 0, 1) := by decide +kernel
theorem dX7_countHolders_26 : decode cX7_countHolders 26 = .ok (.getfield 52, 3) := by decide +kernel
theorem dX7_countHolders_29 : decode cX7_countHolders 29 = .ok (.aload_n 1, 1) := by decide +kernel
theorem dX7_countHolders_30 : decode cX7_countHolders 30 = .ok (.iload 5, 2) := by decide +kernel
theorem dX7_countHolders_32 : decode cX7_countHolders 32 = .ok (.iload_n 3, 1) := by decide +kernel
theorem dX7_countHolders_33 : decode cX7_countHolders 33 = .ok (.invokevirtual 170, 3) := by decide +kernel
theorem dX7_countHolders_36 : decode cX7_countHolders 36 = .ok (.ifCond .eq 6, 3) := by decide +kernel
theorem dX7_countHolders_39 : decode cX7_countHolders 39 = .ok (.iinc 4 1, 3) := by decide +kernel
theorem dX7_countHolders_42 : decode cX7_countHolders 42 = .ok (.iinc 5 1, 3) := by decide +kernel
theorem dX7_countHolders_45 : decode cX7_countHolders 45 = .ok (.goto (-39), 3) := by decide +kernel
theorem dX7_countHolders_48 : decode cX7_countHolders 48 = .ok (.iload 4, 2) := by decide +kernel
theorem dX7_countHolders_50 : decode cX7_countHolders 50 = .ok (.ireturn, 1) := by decide +kernel
theorem dX7_drawTalk_0 : decode cX7_drawTalk 0 = .ok (.aload_n 1, 1) := by decide +kernel
theorem dX7_drawTalk_1 : decode cX7_drawTalk 1 = .ok (.iload_n 2, 1) := by decide +kernel
theorem dX7_drawTalk_2 : decode cX7_drawTalk 2 = .ok (.invokevirtual 396, 3) := by decide +kernel
theorem dX7_drawTalk_5 : decode cX7_drawTalk 5 = .ok (.istore_n 3, 1) := by decide +kernel
theorem dX7_drawTalk_6 : decode cX7_drawTalk 6 = .ok (.aload_n 1, 1) := by decide +kernel
theorem dX7_drawTalk_7 : decode cX7_drawTalk 7 = .ok (.iload_n 2, 1) := by decide +kernel
theorem dX7_drawTalk_8 : decode cX7_drawTalk 8 = .ok (.iconst 1, 1) := by decide +kernel
theorem dX7_drawTalk_9 : decode cX7_drawTalk 9 = .ok (.isub, 1) := by decide +kernel
theorem dX7_drawTalk_10 : decode cX7_drawTalk 10 = .ok (.invokevirtual 396, 3) := by decide +kernel
theorem dX7_drawTalk_13 : decode cX7_drawTalk 13 = .ok (.istore 4, 2) := by decide +kernel
theorem dX7_drawTalk_15 : decode cX7_drawTalk 15 = .ok (.iload 4, 2) := by decide +kernel
theorem dX7_drawTalk_17 : decode cX7_drawTalk 17 = .ok (.iload_n 3, 1) := by decide +kernel
theorem dX7_drawTalk_18 : decode cX7_drawTalk 18 = .ok (.if_icmp .lt 6, 3) := by decide +kernel
theorem dX7_drawTalk_21 : decode cX7_drawTalk 21 = .ok (.iinc 4 1, 3) := by decide +kernel
theorem dX7_drawTalk_24 : decode cX7_drawTalk 24 = .ok (.aload_n 1, 1) := by decide +kernel
theorem dX7_drawTalk_25 : decode cX7_drawTalk 25 = .ok (.iconst 4, 1) := by decide +kernel
theorem dX7_drawTalk_26 : decode cX7_drawTalk 26 = .ok (.invokevirtual 396, 3) := by decide +kernel
theorem dX7_drawTalk_29 : decode cX7_drawTalk 29 = .ok (.istore 5, 2) := by decide +kernel
theorem dX7_drawTalk_31 : decode cX7_drawTalk 31 = .ok (.aload_n 1, 1) := by decide +kernel
theorem dX7_drawTalk_32 : decode cX7_drawTalk 32 = .ok (.iconst 4, 1) := by decide +kernel
theorem dX7_drawTalk_33 : decode cX7_drawTalk 33 = .ok (.invokevirtual 396, 3) := by decide +kernel
theorem dX7_drawTalk_36 : decode cX7_drawTalk 36 = .ok (.istore 6, 2) := by decide +kernel
theorem dX7_drawTalk_38 : decode cX7_drawTalk 38 = .ok (.aload_n 1, 1) := by decide +kernel
theorem dX7_drawTalk_39 : decode cX7_drawTalk 39 = .ok (.iconst 4, 1) := by decide +kernel
theorem dX7_drawTalk_40 : decode cX7_drawTalk 40 = .ok (.invokevirtual 396, 3) := by decide +kernel
theorem dX7_drawTalk_43 : decode cX7_drawTalk 43 = .ok (.istore 7, 2) := by decide +kernel
theorem dX7_drawTalk_45 : decode cX7_drawTalk 45 = .ok (.aload_n 0, 1) := by decide +kernel
theorem dX7_drawTalk_46 : decode cX7_drawTalk 46 = .ok (.getfield 45, 3) := by decide +kernel
theorem dX7_drawTalk_49 : decode cX7_drawTalk 49 = .ok (.aload_n 0, 1) := by decide +kernel
theorem dX7_drawTalk_50 : decode cX7_drawTalk 50 = .ok (.getfield 67, 3) := by decide +kernel
theorem dX7_drawTalk_53 : decode cX7_drawTalk 53 = .ok (.iload_n 3, 1) := by decide +kernel
theorem dX7_drawTalk_54 : decode cX7_drawTalk 54 = .ok (.iaload, 1) := by decide +kernel
theorem dX7_drawTalk_55 : decode cX7_drawTalk 55 = .ok (.aload_n 0, 1) := by decide +kernel
theorem dX7_drawTalk_56 : decode cX7_drawTalk 56 = .ok (.getfield 67, 3) := by decide +kernel
theorem dX7_drawTalk_59 : decode cX7_drawTalk 59 = .ok (.iload 4, 2) := by decide +kernel
theorem dX7_drawTalk_61 : decode cX7_drawTalk 61 = .ok (.iaload, 1) := by decide +kernel
theorem dX7_drawTalk_62 : decode cX7_drawTalk 62 = .ok (.iload 5, 2) := by decide +kernel
theorem dX7_drawTalk_64 : decode cX7_drawTalk 64 = .ok (.iload 6, 2) := by decide +kernel
theorem dX7_drawTalk_66 : decode cX7_drawTalk 66 = .ok (.iload 7, 2) := by decide +kernel
theorem dX7_drawTalk_68 : decode cX7_drawTalk 68 = .ok (.invokevirtual 221, 3) := by decide +kernel
theorem dX7_drawTalk_71 : decode cX7_drawTalk 71 = .ok (.return_, 1) := by decide +kernel
theorem dX7_makeNotedTalk_0 : decode cX7_makeNotedTalk 0 = .ok (.aload_n 0, 1) := by decide +kernel
theorem dX7_makeNotedTalk_1 : decode cX7_makeNotedTalk 1 = .ok (.getfield 45, 3) := by decide +kernel
theorem dX7_makeNotedTalk_4 : decode cX7_makeNotedTalk 4 = .ok (.aload_n 0, 1) := by decide +kernel
theorem dX7_makeNotedTalk_5 : decode cX7_makeNotedTalk 5 = .ok (.getfield 10, 3) := by decide +kernel
theorem dX7_makeNotedTalk_8 : decode cX7_makeNotedTalk 8 = .ok (.aload_n 0, 1) := by decide +kernel
theorem dX7_makeNotedTalk_9 : decode cX7_makeNotedTalk 9 = .ok (.getfield 52, 3) := by decide +kernel
theorem dX7_makeNotedTalk_12 : decode cX7_makeNotedTalk 12 = .ok (.invokevirtual 399, 3) := by decide +kernel
theorem dX7_makeNotedTalk_15 : decode cX7_makeNotedTalk 15 = .ok (.aload_n 0, 1) := by decide +kernel
theorem dX7_makeNotedTalk_16 : decode cX7_makeNotedTalk 16 = .ok (.getfield 38, 3) := by decide +kernel
theorem dX7_makeNotedTalk_19 : decode cX7_makeNotedTalk 19 = .ok (.aload_n 0, 1) := by decide +kernel
theorem dX7_makeNotedTalk_20 : decode cX7_makeNotedTalk 20 = .ok (.getfield 10, 3) := by decide +kernel
theorem dX7_makeNotedTalk_23 : decode cX7_makeNotedTalk 23 = .ok (.aload_n 0, 1) := by decide +kernel
theorem dX7_makeNotedTalk_24 : decode cX7_makeNotedTalk 24 = .ok (.getfield 45, 3) := by decide +kernel
theorem dX7_makeNotedTalk_27 : decode cX7_makeNotedTalk 27 = .ok (.invokevirtual 403, 3) := by decide +kernel
theorem dX7_makeNotedTalk_30 : decode cX7_makeNotedTalk 30 = .ok (.aload_n 0, 1) := by decide +kernel
theorem dX7_makeNotedTalk_31 : decode cX7_makeNotedTalk 31 = .ok (.getfield 38, 3) := by decide +kernel
theorem dX7_makeNotedTalk_34 : decode cX7_makeNotedTalk 34 = .ok (.aload_n 0, 1) := by decide +kernel
theorem dX7_makeNotedTalk_35 : decode cX7_makeNotedTalk 35 = .ok (.getfield 10, 3) := by decide +kernel
theorem dX7_makeNotedTalk_38 : decode cX7_makeNotedTalk 38 = .ok (.aload_n 0, 1) := by decide +kernel
theorem dX7_makeNotedTalk_39 : decode cX7_makeNotedTalk 39 = .ok (.getfield 52, 3) := by decide +kernel
theorem dX7_makeNotedTalk_42 : decode cX7_makeNotedTalk 42 = .ok (.aload_n 0, 1) := by decide +kernel
theorem dX7_makeNotedTalk_43 : decode cX7_makeNotedTalk 43 = .ok (.getfield 45, 3) := by decide +kernel
theorem dX7_makeNotedTalk_46 : decode cX7_makeNotedTalk 46 = .ok (.getfield 407, 3) := by decide +kernel
theorem dX7_makeNotedTalk_49 : decode cX7_makeNotedTalk 49 = .ok (.invokevirtual 410, 3) := by decide +kernel
theorem dX7_makeNotedTalk_52 : decode cX7_makeNotedTalk 52 = .ok (.aload_n 0, 1) := by decide +kernel
theorem dX7_makeNotedTalk_53 : decode cX7_makeNotedTalk 53 = .ok (.getfield 38, 3) := by decide +kernel
theorem dX7_makeNotedTalk_56 : decode cX7_makeNotedTalk 56 = .ok (.aload_n 0, 1) := by decide +kernel
theorem dX7_makeNotedTalk_57 : decode cX7_makeNotedTalk 57 = .ok (.getfield 10, 3) := by decide +kernel
theorem dX7_makeNotedTalk_60 : decode cX7_makeNotedTalk 60 = .ok (.aload_n 0, 1) := by decide +kernel
theorem dX7_makeNotedTalk_61 : decode cX7_makeNotedTalk 61 = .ok (.getfield 52, 3) := by decide +kernel
theorem dX7_makeNotedTalk_64 : decode cX7_makeNotedTalk 64 = .ok (.aload_n 0, 1) := by decide +kernel
theorem dX7_makeNotedTalk_65 : decode cX7_makeNotedTalk 65 = .ok (.getfield 45, 3) := by decide +kernel
theorem dX7_makeNotedTalk_68 : decode cX7_makeNotedTalk 68 = .ok (.getfield 414, 3) := by decide +kernel
theorem dX7_makeNotedTalk_71 : decode cX7_makeNotedTalk 71 = .ok (.invokevirtual 410, 3) := by decide +kernel
theorem dX7_makeNotedTalk_74 : decode cX7_makeNotedTalk 74 = .ok (.aload_n 0, 1) := by decide +kernel
theorem dX7_makeNotedTalk_75 : decode cX7_makeNotedTalk 75 = .ok (.getfield 86, 3) := by decide +kernel
theorem dX7_makeNotedTalk_78 : decode cX7_makeNotedTalk 78 = .ok (.iconst (-1), 1) := by decide +kernel
theorem dX7_makeNotedTalk_79 : decode cX7_makeNotedTalk 79 = .ok (.if_icmp .eq 42, 3) := by decide +kernel
theorem dX7_makeNotedTalk_82 : decode cX7_makeNotedTalk 82 = .ok (.aload_n 0, 1) := by decide +kernel
theorem dX7_makeNotedTalk_83 : decode cX7_makeNotedTalk 83 = .ok (.getfield 25, 3) := by decide +kernel
theorem dX7_makeNotedTalk_86 : decode cX7_makeNotedTalk 86 = .ok (.aload_n 0, 1) := by decide +kernel
theorem dX7_makeNotedTalk_87 : decode cX7_makeNotedTalk 87 = .ok (.getfield 86, 3) := by decide +kernel
theorem dX7_makeNotedTalk_90 : decode cX7_makeNotedTalk 90 = .ok (.aaload, 1) := by decide +kernel
theorem dX7_makeNotedTalk_91 : decode cX7_makeNotedTalk 91 = .ok (.dup, 1) := by decide +kernel
theorem dX7_makeNotedTalk_92 : decode cX7_makeNotedTalk 92 = .ok (.getfield 277, 3) := by decide +kernel
theorem dX7_makeNotedTalk_95 : decode cX7_makeNotedTalk 95 = .ok (.iconst 1, 1) := by decide +kernel
theorem dX7_makeNotedTalk_96 : decode cX7_makeNotedTalk 96 = .ok (.iadd, 1) := by decide +kernel
theorem dX7_makeNotedTalk_97 : decode cX7_makeNotedTalk 97 = .ok (.putfield 277, 3) := by decide +kernel
theorem dX7_makeNotedTalk_100 : decode cX7_makeNotedTalk 100 = .ok (.aload_n 0, 1) := by decide +kernel
theorem dX7_makeNotedTalk_101 : decode cX7_makeNotedTalk 101 = .ok (.getfield 25, 3) := by decide +kernel
theorem dX7_makeNotedTalk_104 : decode cX7_makeNotedTalk 104 = .ok (.aload_n 0, 1) := by decide +kernel
theorem dX7_makeNotedTalk_105 : decode cX7_makeNotedTalk 105 = .ok (.getfield 86, 3) := by decide +kernel
theorem dX7_makeNotedTalk_108 : decode cX7_makeNotedTalk 108 = .ok (.aaload, 1) := by decide +kernel
theorem dX7_makeNotedTalk_109 : decode cX7_makeNotedTalk 109 = .ok (.getfield 277, 3) := by decide +kernel
theorem dX7_makeNotedTalk_112 : decode cX7_makeNotedTalk 112 = .ok (.bipush 100, 2) := by decide +kernel
theorem dX7_makeNotedTalk_114 : decode cX7_makeNotedTalk 114 = .ok (.if_icmp .lt 7, 3) := by decide +kernel
theorem dX7_makeNotedTalk_117 : decode cX7_makeNotedTalk 117 = .ok (.aload_n 0, 1) := by decide +kernel
theorem dX7_makeNotedTalk_118 : decode cX7_makeNotedTalk 118 = .ok (.invokevirtual 100, 3) := by decide +kernel
theorem dX7_makeNotedTalk_121 : decode cX7_makeNotedTalk 121 = .ok (.return_, 1) := by decide +kernel
theorem dX7_tryOut_0 : decode cX7_tryOut 0 = .ok (.aload_n 0, 1) := by decide +kernel
theorem dX7_tryOut_1 : decode cX7_tryOut 1 = .ok (.getfield 16, 3) := by decide +kernel
theorem dX7_tryOut_4 : decode cX7_tryOut 4 = .ok (.iload_n 1, 1) := by decide +kernel
theorem dX7_tryOut_5 : decode cX7_tryOut 5 = .ok (.aload_n 0, 1) := by decide +kernel
theorem dX7_tryOut_6 : decode cX7_tryOut 6 = .ok (.getfield 67, 3) := by decide +kernel
theorem dX7_tryOut_9 : decode cX7_tryOut 9 = .ok (.invokevirtual 235, 3) := by decide +kernel
theorem dX7_tryOut_12 : decode cX7_tryOut 12 = .ok (.istore 4, 2) := by decide +kernel
theorem dX7_tryOut_14 : decode cX7_tryOut 14 = .ok (.iload 4, 2) := by decide +kernel
theorem dX7_tryOut_16 : decode cX7_tryOut 16 = .ok (.iconst 2, 1) := by decide +kernel
theorem dX7_tryOut_17 : decode cX7_tryOut 17 = .ok (.if_icmp .lt 43, 3) := by decide +kernel
theorem dX7_tryOut_20 : decode cX7_tryOut 20 = .ok (.iconst 0, 1) := by decide +kernel
theorem dX7_tryOut_21 : decode cX7_tryOut 21 = .ok (.istore 5, 2) := by decide +kernel
theorem dX7_tryOut_23 : decode cX7_tryOut 23 = .ok (.iload 5, 2) := by decide +kernel
theorem dX7_tryOut_25 : decode cX7_tryOut 25 = .ok (.iload_n 2, 1) := by decide +kernel
theorem dX7_tryOut_26 : decode cX7_tryOut 26 = .ok (.if_icmp .ge 34, 3) := by decide +kernel
theorem dX7_tryOut_29 : decode cX7_tryOut 29 = .ok (.aload_n 0, 1) := by decide +kernel
theorem dX7_tryOut_30 : decode cX7_tryOut 30 = .ok (.aload_n 0, 1) := by decide +kernel
theorem dX7_tryOut_31 : decode cX7_tryOut 31 = .ok (.getfield 16, 3) := by decide +kernel
theorem dX7_tryOut_34 : decode cX7_tryOut 34 = .ok (.iload 4, 2) := by decide +kernel
theorem dX7_tryOut_36 : decode cX7_tryOut 36 = .ok (.invokevirtual 239, 3) := by decide +kernel
theorem dX7_tryOut_39 : decode cX7_tryOut 39 = .ok (.aload_n 0, 1) := by decide +kernel
theorem dX7_tryOut_40 : decode cX7_tryOut 40 = .ok (.getfield 45, 3) := by decide +kernel
theorem dX7_tryOut_43 : decode cX7_tryOut 43 = .ok (.aload_n 0, 1) := by decide +kernel
theorem dX7_tryOut_44 : decode cX7_tryOut 44 = .ok (.getfield 16, 3) := by decide +kernel
theorem dX7_tryOut_47 : decode cX7_tryOut 47 = .ok (.aload_n 0, 1) := by decide +kernel
theorem dX7_tryOut_48 : decode cX7_tryOut 48 = .ok (.getfield 52, 3) := by decide +kernel
theorem dX7_tryOut_51 : decode cX7_tryOut 51 = .ok (.invokevirtual 399, 3) := by decide +kernel
theorem dX7_tryOut_54 : decode cX7_tryOut 54 = .ok (.iinc 5 1, 3) := by decide +kernel
theorem dX7_tryOut_57 : decode cX7_tryOut 57 = .ok (.goto (-34), 3) := by decide +kernel
theorem dX7_tryOut_60 : decode cX7_tryOut 60 = .ok (.aload_n 0, 1) := by decide +kernel
theorem dX7_tryOut_61 : decode cX7_tryOut 61 = .ok (.aload_n 0, 1) := by decide +kernel
theorem dX7_tryOut_62 : decode cX7_tryOut 62 = .ok (.getfield 16, 3) := by decide +kernel
theorem dX7_tryOut_65 : decode cX7_tryOut 65 = .ok (.iload_n 1, 1) := by decide +kernel
theorem dX7_tryOut_66 : decode cX7_tryOut 66 = .ok (.iload_n 3, 1) := by decide +kernel
theorem dX7_tryOut_67 : decode cX7_tryOut 67 = .ok (.invokevirtual 255, 3) := by decide +kernel
theorem dX7_tryOut_70 : decode cX7_tryOut 70 = .ok (.ireturn, 1) := by decide +kernel
theorem dX7_countAlike_0 : decode cX7_countAlike 0 = .ok (.aload_n 0, 1) := by decide +kernel
theorem dX7_countAlike_1 : decode cX7_countAlike 1 = .ok (.getfield 16, 3) := by decide +kernel
theorem dX7_countAlike_4 : decode cX7_countAlike 4 = .ok (.aload_n 1, 1) := by decide +kernel
theorem dX7_countAlike_5 : decode cX7_countAlike 5 = .ok (.getfield 417, 3) := by decide +kernel
theorem dX7_countAlike_8 : decode cX7_countAlike 8 = .ok (.invokevirtual 295, 3) := by decide +kernel
theorem dX7_countAlike_11 : decode cX7_countAlike 11 = .ok (.aload_n 0, 1) := by decide +kernel
theorem dX7_countAlike_12 : decode cX7_countAlike 12 = .ok (.getfield 52, 3) := by decide +kernel
theorem dX7_countAlike_15 : decode cX7_countAlike 15 = .ok (.aload_n 0, 1) := by decide +kernel
theorem dX7_countAlike_16 : decode cX7_countAlike 16 = .ok (.iload_n 2, 1) := by decide +kernel
theorem dX7_countAlike_17 : decode cX7_countAlike 17 = .ok (.invokevirtual 299, 3) := by decide +kernel
theorem dX7_countAlike_20 : decode cX7_countAlike 20 = .ok (.iconst (-1), 1) := by decide +kernel
theorem dX7_countAlike_21 : decode cX7_countAlike 21 = .ok (.invokevirtual 303, 3) := by decide +kernel
theorem dX7_countAlike_24 : decode cX7_countAlike 24 = .ok (.iconst 0, 1) := by decide +kernel
theorem dX7_countAlike_25 : decode cX7_countAlike 25 = .ok (.istore_n 3, 1) := by decide +kernel
theorem dX7_countAlike_26 : decode cX7_countAlike 26 = .ok (.iload_n 3, 1) := by decide +kernel
theorem dX7_countAlike_27 : decode cX7_countAlike 27 = .ok (.aload_n 1, 1) := by decide +kernel
theorem dX7_countAlike_28 : decode cX7_countAlike 28 = .ok (.getfield 277, 3) := by decide +kernel
theorem dX7_countAlike_31 : decode cX7_countAlike 31 = .ok (.if_icmp .ge 116, 3) := by decide +kernel
theorem dX7_countAlike_34 : decode cX7_countAlike 34 = .ok (.aload_n 1, 1) := by decide +kernel
theorem dX7_countAlike_35 : decode cX7_countAlike 35 = .ok (.getfield 420, 3) := by decide +kernel
theorem dX7_countAlike_38 : decode cX7_countAlike 38 = .ok (.iload_n 3, 1) := by decide +kernel
theorem dX7_countAlike_39 : decode cX7_countAlike 39 = .ok (.iadd, 1) := by decide +kernel
theorem dX7_countAlike_40 : decode cX7_countAlike 40 = .ok (.istore 4, 2) := by decide +kernel
theorem dX7_countAlike_42 : decode cX7_countAlike 42 = .ok (.aload_n 0, 1) := by decide +kernel
theorem dX7_countAlike_43 : decode cX7_countAlike 43 = .ok (.getfield 45, 3) := by decide +kernel
theorem dX7_countAlike_46 : decode cX7_countAlike 46 = .ok (.aload_n 0, 1) := by decide +kernel
theorem dX7_countAlike_47 : decode cX7_countAlike 47 = .ok (.getfield 38, 3) := by decide +kernel
theorem dX7_countAlike_50 : decode cX7_countAlike 50 = .ok (.iload 4, 2) := by decide +kernel
theorem dX7_countAlike_52 : decode cX7_countAlike 52 = .ok (.iconst 1, 1) := by decide +kernel
theorem dX7_countAlike_53 : decode cX7_countAlike 53 = .ok (.invokevirtual 248, 3) := by decide +kernel
theorem dX7_countAlike_56 : decode cX7_countAlike 56 = .ok (.aload_n 0, 1) := by decide +kernel
theorem dX7_countAlike_57 : decode cX7_countAlike 57 = .ok (.getfield 38, 3) := by decide +kernel
theorem dX7_countAlike_60 : decode cX7_countAlike 60 = .ok (.iload 4, 2) := by decide +kernel
theorem dX7_countAlike_62 : decode cX7_countAlike 62 = .ok (.iconst 2, 1) := by decide +kernel
theorem dX7_countAlike_63 : decode cX7_countAlike 63 = .ok (.invokevirtual 248, 3) := by decide +kernel
theorem dX7_countAlike_66 : decode cX7_countAlike 66 = .ok (.aload_n 0, 1) := by decide +kernel
theorem dX7_countAlike_67 : decode cX7_countAlike 67 = .ok (.getfield 38, 3) := by decide +kernel
theorem dX7_countAlike_70 : decode cX7_countAlike 70 = .ok (.iload 4, 2) := by decide +kernel
theorem dX7_countAlike_72 : decode cX7_countAlike 72 = .ok (.iconst 3, 1) := by decide +kernel
theorem dX7_countAlike_73 : decode cX7_countAlike 73 = .ok (.invokevirtual 248, 3) := by decide +kernel
theorem dX7_countAlike_76 : decode cX7_countAlike 76 = .ok (.aload_n 0, 1) := by decide +kernel
theorem dX7_countAlike_77 : decode cX7_countAlike 77 = .ok (.getfield 38, 3) := by decide +kernel
theorem dX7_countAlike_80 : decode cX7_countAlike 80 = .ok (.iload 4, 2) := by decide +kernel
theorem dX7_countAlike_82 : decode cX7_countAlike 82 = .ok (.iconst 4, 1) := by decide +kernel
theorem dX7_countAlike_83 : decode cX7_countAlike 83 = .ok (.invokevirtual 248, 3) := by decide +kernel
theorem dX7_countAlike_86 : decode cX7_countAlike 86 = .ok (.aload_n 0, 1) := by decide +kernel
theorem dX7_countAlike_87 : decode cX7_countAlike 87 = .ok (.getfield 38, 3) := by decide +kernel
theorem dX7_countAlike_90 : decode cX7_countAlike 90 = .ok (.iload 4, 2) := by decide +kernel
theorem dX7_countAlike_92 : decode cX7_countAlike 92 = .ok (.iconst 5, 1) := by decide +kernel
theorem dX7_countAlike_93 : decode cX7_countAlike 93 = .ok (.invokevirtual 248, 3) := by decide +kernel
theorem dX7_countAlike_96 : decode cX7_countAlike 96 = .ok (.invokevirtual 221, 3) := by decide +kernel
theorem dX7_countAlike_99 : decode cX7_countAlike 99 = .ok (.aload_n 0, 1) := by decide +kernel
theorem dX7_countAlike_100 : decode cX7_countAlike 100 = .ok (.getfield 45, 3) := by decide +kernel
theorem dX7_countAlike_103 : decode cX7_countAlike 103 = .ok (.aload_n 0, 1) := by decide +kernel
theorem dX7_countAlike_104 : decode cX7_countAlike 104 = .ok (.getfield 16, 3) := by decide +kernel
theorem dX7_countAlike_107 : decode cX7_countAlike 107 = .ok (.aload_n 0, 1) := by decide +kernel
theorem dX7_countAlike_108 : decode cX7_countAlike 108 = .ok (.getfield 52, 3) := by decide +kernel
theorem dX7_countAlike_111 : decode cX7_countAlike 111 = .ok (.invokevirtual 399, 3) := by decide +kernel
theorem dX7_countAlike_114 : decode cX7_countAlike 114 = .ok (.aload_n 1, 1) := by decide +kernel
theorem dX7_countAlike_115 : decode cX7_countAlike 115 = .ok (.getfield 283, 3) := by decide +kernel
theorem dX7_countAlike_118 : decode cX7_countAlike 118 = .ok (.iload_n 3, 1) := by decide +kernel
theorem dX7_countAlike_119 : decode cX7_countAlike 119 = .ok (.baload, 1) := by decide +kernel
theorem dX7_countAlike_120 : decode cX7_countAlike 120 = .ok (.ifCond .ne 21, 3) := by decide +kernel
theorem dX7_countAlike_123 : decode cX7_countAlike 123 = .ok (.aload_n 0, 1) := by decide +kernel
theorem dX7_countAlike_124 : decode cX7_countAlike 124 = .ok (.getfield 38, 3) := by decide +kernel
theorem dX7_countAlike_127 : decode cX7_countAlike 127 = .ok (.iload 4, 2) := by decide +kernel
theorem dX7_countAlike_129 : decode cX7_countAlike 129 = .ok (.aload_n 0, 1) := by decide +kernel
theorem dX7_countAlike_130 : decode cX7_countAlike 130 = .ok (.getfield 45, 3) := by decide +kernel
theorem dX7_countAlike_133 : decode cX7_countAlike 133 = .ok (.invokevirtual 423, 3) := by decide +kernel
theorem dX7_countAlike_136 : decode cX7_countAlike 136 = .ok (.ifCond .ne 5, 3) := by decide +kernel
theorem dX7_countAlike_139 : decode cX7_countAlike 139 = .ok (.iload_n 3, 1) := by decide +kernel
theorem dX7_countAlike_140 : decode cX7_countAlike 140 = .ok (.ireturn, 1) := by decide +kernel
theorem dX7_countAlike_141 : decode cX7_countAlike 141 = .ok (.iinc 3 1, 3) := by decide +kernel
theorem dX7_countAlike_144 : decode cX7_countAlike 144 = .ok (.goto (-118), 3) := by decide +kernel
theorem dX7_countAlike_147 : decode cX7_countAlike 147 = .ok (.aload_n 1, 1) := by decide +kernel
theorem dX7_countAlike_148 : decode cX7_countAlike 148 = .ok (.getfield 277, 3) := by decide +kernel
theorem dX7_countAlike_151 : decode cX7_countAlike 151 = .ok (.ireturn, 1) := by decide +kernel
theorem dX7_countUnlike_0 : decode cX7_countUnlike 0 = .ok (.aload_n 0, 1) := by decide +kernel
theorem dX7_countUnlike_1 : decode cX7_countUnlike 1 = .ok (.getfield 10, 3) := by decide +kernel
theorem dX7_countUnlike_4 : decode cX7_countUnlike 4 = .ok (.iload_n 1, 1) := by decide +kernel
theorem dX7_countUnlike_5 : decode cX7_countUnlike 5 = .ok (.invokevirtual 427, 3) := by decide +kernel
theorem dX7_countUnlike_8 : decode cX7_countUnlike 8 = .ok (.aload_n 0, 1) := by decide +kernel
theorem dX7_countUnlike_9 : decode cX7_countUnlike 9 = .ok (.getfield 10, 3) := by decide +kernel
theorem dX7_countUnlike_12 : decode cX7_countUnlike 12 = .ok (.iload_n 2, 1) := by decide +kernel
theorem dX7_countUnlike_13 : decode cX7_countUnlike 13 = .ok (.invokevirtual 427, 3) := by decide +kernel
theorem dX7_countUnlike_16 : decode cX7_countUnlike 16 = .ok (.if_icmp .ne 7, 3) := by decide +kernel
theorem dX7_countUnlike_19 : decode cX7_countUnlike 19 = .ok (.iconst 0, 1) := by decide +kernel
theorem dX7_countUnlike_20 : decode cX7_countUnlike 20 = .ok (.goto 4, 3) := by decide +kernel
theorem dX7_countUnlike_23 : decode cX7_countUnlike 23 = .ok (.iconst 1, 1) := by decide +kernel
theorem dX7_countUnlike_24 : decode cX7_countUnlike 24 = .ok (.istore_n 3, 1) := by decide +kernel
theorem dX7_countUnlike_25 : decode cX7_countUnlike 25 = .ok (.iconst 0, 1) := by decide +kernel
theorem dX7_countUnlike_26 : decode cX7_countUnlike 26 = .ok (.istore 4, 2) := by decide +kernel
theorem dX7_countUnlike_28 : decode cX7_countUnlike 28 = .ok (.iload 4, 2) := by decide +kernel
theorem dX7_countUnlike_30 : decode cX7_countUnlike 30 = .ok (.bipush 8, 2) := by decide +kernel
theorem dX7_countUnlike_32 : decode cX7_countUnlike 32 = .ok (.if_icmp .ge 35, 3) := by decide +kernel
theorem dX7_countUnlike_35 : decode cX7_countUnlike 35 = .ok (.aload_n 0, 1) := by decide +kernel
theorem dX7_countUnlike_36 : decode cX7_countUnlike 36 = .ok (.getfield 10, 3) := by decide +kernel
theorem dX7_countUnlike_39 : decode cX7_countUnlike 39 = .ok (.iload_n 1, 1) := by decide +kernel
theorem dX7_countUnlike_40 : decode cX7_countUnlike 40 = .ok (.iload 4, 2) := by decide +kernel
theorem dX7_countUnlike_42 : decode cX7_countUnlike 42 = .ok (.invokevirtual 342, 3) := by decide +kernel
theorem dX7_countUnlike_45 : decode cX7_countUnlike 45 = .ok (.aload_n 0, 1) := by decide +kernel
theorem dX7_countUnlike_46 : decode cX7_countUnlike 46 = .ok (.getfield 10, 3) := by decide +kernel
theorem dX7_countUnlike_49 : decode cX7_countUnlike 49 = .ok (.iload_n 2, 1) := by decide +kernel
theorem dX7_countUnlike_50 : decode cX7_countUnlike 50 = .ok (.iload 4, 2) := by decide +kernel
theorem dX7_countUnlike_52 : decode cX7_countUnlike 52 = .ok (.invokevirtual 342, 3) := by decide +kernel
theorem dX7_countUnlike_55 : decode cX7_countUnlike 55 = .ok (.if_icmp .eq 6, 3) := by decide +kernel
theorem dX7_countUnlike_58 : decode cX7_countUnlike 58 = .ok (.iinc 3 1, 3) := by decide +kernel
theorem dX7_countUnlike_61 : decode cX7_countUnlike 61 = .ok (.iinc 4 1, 3) := by decide +kernel
theorem dX7_countUnlike_64 : decode cX7_countUnlike 64 = .ok (.goto (-36), 3) := by decide +kernel
theorem dX7_countUnlike_67 : decode cX7_countUnlike 67 = .ok (.iload_n 3, 1) := by decide +kernel
theorem dX7_countUnlike_68 : decode cX7_countUnlike 68 = .ok (.ireturn, 1) := by decide +kernel
theorem dX7_areBlurred_0 : decode cX7_areBlurred 0 = .ok (.aload_n 0, 1) := by decide +kernel
theorem dX7_areBlurred_1 : decode cX7_areBlurred 1 = .ok (.getfield 10, 3) := by decide +kernel
theorem dX7_areBlurred_4 : decode cX7_areBlurred 4 = .ok (.iload_n 1, 1) := by decide +kernel
theorem dX7_areBlurred_5 : decode cX7_areBlurred 5 = .ok (.iload_n 2, 1) := by decide +kernel
theorem dX7_areBlurred_6 : decode cX7_areBlurred 6 = .ok (.invokevirtual 342, 3) := by decide +kernel
theorem dX7_areBlurred_9 : decode cX7_areBlurred 9 = .ok (.istore 4, 2) := by decide +kernel
theorem dX7_areBlurred_11 : decode cX7_areBlurred 11 = .ok (.aload_n 0, 1) := by decide +kernel
theorem dX7_areBlurred_12 : decode cX7_areBlurred 12 = .ok (.getfield 10, 3) := by decide +kernel
theorem dX7_areBlurred_15 : decode cX7_areBlurred 15 = .ok (.iload_n 1, 1) := by decide +kernel
theorem dX7_areBlurred_16 : decode cX7_areBlurred 16 = .ok (.iload_n 3, 1) := by decide +kernel
theorem dX7_areBlurred_17 : decode cX7_areBlurred 17 = .ok (.invokevirtual 342, 3) := by decide +kernel
theorem dX7_areBlurred_20 : decode cX7_areBlurred 20 = .ok (.istore 5, 2) := by decide +kernel
theorem dX7_areBlurred_22 : decode cX7_areBlurred 22 = .ok (.iload 4, 2) := by decide +kernel
theorem dX7_areBlurred_24 : decode cX7_areBlurred 24 = .ok (.iload 5, 2) := by decide +kernel
theorem dX7_areBlurred_26 : decode cX7_areBlurred 26 = .ok (.if_icmp .eq 30, 3) := by decide +kernel
theorem dX7_areBlurred_29 : decode cX7_areBlurred 29 = .ok (.aload_n 0, 1) := by decide +kernel
theorem dX7_areBlurred_30 : decode cX7_areBlurred 30 = .ok (.getfield 10, 3) := by decide +kernel
theorem dX7_areBlurred_33 : decode cX7_areBlurred 33 = .ok (.iload_n 1, 1) := by decide +kernel
theorem dX7_areBlurred_34 : decode cX7_areBlurred 34 = .ok (.iload 4, 2) := by decide +kernel
theorem dX7_areBlurred_36 : decode cX7_areBlurred 36 = .ok (.invokevirtual 272, 3) := by decide +kernel
theorem dX7_areBlurred_39 : decode cX7_areBlurred 39 = .ok (.aload_n 0, 1) := by decide +kernel
theorem dX7_areBlurred_40 : decode cX7_areBlurred 40 = .ok (.getfield 10, 3) := by decide +kernel
theorem dX7_areBlurred_43 : decode cX7_areBlurred 43 = .ok (.iload_n 1, 1) := by decide +kernel
theorem dX7_areBlurred_44 : decode cX7_areBlurred 44 = .ok (.iload 5, 2) := by decide +kernel
theorem dX7_areBlurred_46 : decode cX7_areBlurred 46 = .ok (.invokevirtual 272, 3) := by decide +kernel
theorem dX7_areBlurred_49 : decode cX7_areBlurred 49 = .ok (.if_icmp .ne 7, 3) := by decide +kernel
theorem dX7_areBlurred_52 : decode cX7_areBlurred 52 = .ok (.iconst 1, 1) := by decide +kernel
theorem dX7_areBlurred_53 : decode cX7_areBlurred 53 = .ok (.goto 4, 3) := by decide +kernel
theorem dX7_areBlurred_56 : decode cX7_areBlurred 56 = .ok (.iconst 0, 1) := by decide +kernel
theorem dX7_areBlurred_57 : decode cX7_areBlurred 57 = .ok (.ireturn, 1) := by decide +kernel
theorem dX7_countSeenAlone_0 : decode cX7_countSeenAlone 0 = .ok (.iconst 0, 1) := by decide +kernel
theorem dX7_countSeenAlone_1 : decode cX7_countSeenAlone 1 = .ok (.istore_n 3, 1) := by decide +kernel
theorem dX7_countSeenAlone_2 : decode cX7_countSeenAlone 2 = .ok (.iload_n 2, 1) := by decide +kernel
theorem dX7_countSeenAlone_3 : decode cX7_countSeenAlone 3 = .ok (.istore 4, 2) := by decide +kernel
theorem dX7_countSeenAlone_5 : decode cX7_countSeenAlone 5 = .ok (.iload 4, 2) := by decide +kernel
theorem dX7_countSeenAlone_7 : decode cX7_countSeenAlone 7 = .ok (.iload_n 2, 1) := by decide +kernel
theorem dX7_countSeenAlone_8 : decode cX7_countSeenAlone 8 = .ok (.iconst 4, 1) := by decide +kernel
theorem dX7_countSeenAlone_9 : decode cX7_countSeenAlone 9 = .ok (.iadd, 1) := by decide +kernel
theorem dX7_countSeenAlone_10 : decode cX7_countSeenAlone 10 = .ok (.if_icmp .ge 64, 3) := by decide +kernel
theorem dX7_countSeenAlone_13 : decode cX7_countSeenAlone 13 = .ok (.iconst 0, 1) := by decide +kernel
theorem dX7_countSeenAlone_14 : decode cX7_countSeenAlone 14 = .ok (.istore 5, 2) := by decide +kernel
theorem dX7_countSeenAlone_16 : decode cX7_countSeenAlone 16 = .ok (.iload_n 2, 1) := by decide +kernel
theorem dX7_countSeenAlone_17 : decode cX7_countSeenAlone 17 = .ok (.istore 6, 2) := by decide +kernel
theorem dX7_countSeenAlone_19 : decode cX7_countSeenAlone 19 = .ok (.iload 6, 2) := by decide +kernel
theorem dX7_countSeenAlone_21 : decode cX7_countSeenAlone 21 = .ok (.iload_n 2, 1) := by decide +kernel
theorem dX7_countSeenAlone_22 : decode cX7_countSeenAlone 22 = .ok (.iconst 4, 1) := by decide +kernel
theorem dX7_countSeenAlone_23 : decode cX7_countSeenAlone 23 = .ok (.iadd, 1) := by decide +kernel
theorem dX7_countSeenAlone_24 : decode cX7_countSeenAlone 24 = .ok (.if_icmp .ge 35, 3) := by decide +kernel
theorem dX7_countSeenAlone_27 : decode cX7_countSeenAlone 27 = .ok (.aload_n 0, 1) := by decide +kernel
theorem dX7_countSeenAlone_28 : decode cX7_countSeenAlone 28 = .ok (.getfield 10, 3) := by decide +kernel
theorem dX7_countSeenAlone_31 : decode cX7_countSeenAlone 31 = .ok (.iload_n 1, 1) := by decide +kernel
theorem dX7_countSeenAlone_32 : decode cX7_countSeenAlone 32 = .ok (.iload 4, 2) := by decide +kernel
theorem dX7_countSeenAlone_34 : decode cX7_countSeenAlone 34 = .ok (.invokevirtual 430, 3) := by decide +kernel
theorem dX7_countSeenAlone_37 : decode cX7_countSeenAlone 37 = .ok (.aload_n 0, 1) := by decide +kernel
theorem dX7_countSeenAlone_38 : decode cX7_countSeenAlone 38 = .ok (.getfield 10, 3) := by decide +kernel
theorem dX7_countSeenAlone_41 : decode cX7_countSeenAlone 41 = .ok (.iload_n 1, 1) := by decide +kernel
theorem dX7_countSeenAlone_42 : decode cX7_countSeenAlone 42 = .ok (.iload 6, 2) := by decide +kernel
theorem dX7_countSeenAlone_44 : decode cX7_countSeenAlone 44 = .ok (.invokevirtual 430, 3) := by decide +kernel
theorem dX7_countSeenAlone_47 : decode cX7_countSeenAlone 47 = .ok (.if_icmp .ne 6, 3) := by decide +kernel
theorem dX7_countSeenAlone_50 : decode cX7_countSeenAlone 50 = .ok (.iinc 5 1, 3) := by decide +kernel
theorem dX7_countSeenAlone_53 : decode cX7_countSeenAlone 53 = .ok (.iinc 6 1, 3) := by decide +kernel
theorem dX7_countSeenAlone_56 : decode cX7_countSeenAlone 56 = .ok (.goto (-37), 3) := by decide +kernel
theorem dX7_countSeenAlone_59 : decode cX7_countSeenAlone 59 = .ok (.iload 5, 2) := by decide +kernel
theorem dX7_countSeenAlone_61 : decode cX7_countSeenAlone 61 = .ok (.iconst 1, 1) := by decide +kernel
theorem dX7_countSeenAlone_62 : decode cX7_countSeenAlone 62 = .ok (.if_icmp .ne 6, 3) := by decide +kernel
theorem dX7_countSeenAlone_65 : decode cX7_countSeenAlone 65 = .ok (.iinc 3 1, 3) := by decide +kernel
theorem dX7_countSeenAlone_68 : decode cX7_countSeenAlone 68 = .ok (.iinc 4 1, 3) := by decide +kernel
theorem dX7_countSeenAlone_71 : decode cX7_countSeenAlone 71 = .ok (.goto (-66), 3) := by decide +kernel
theorem dX7_countSeenAlone_74 : decode cX7_countSeenAlone 74 = .ok (.iload_n 3, 1) := by decide +kernel
theorem dX7_countSeenAlone_75 : decode cX7_countSeenAlone 75 = .ok (.ireturn, 1) := by decide +kernel
theorem dX7_findTeacher_0 : decode cX7_findTeacher 0 = .ok (.iconst 0, 1) := by decide +kernel
theorem dX7_findTeacher_1 : decode cX7_findTeacher 1 = .ok (.istore_n 3, 1) := by decide +kernel
theorem dX7_findTeacher_2 : decode cX7_findTeacher 2 = .ok (.iload_n 3, 1) := by decide +kernel
theorem dX7_findTeacher_3 : decode cX7_findTeacher 3 = .ok (.bipush 24, 2) := by decide +kernel
theorem dX7_findTeacher_5 : decode cX7_findTeacher 5 = .ok (.if_icmp .ge 16, 3) := by decide +kernel
theorem dX7_findTeacher_8 : decode cX7_findTeacher 8 = .ok (.aload_n 0, 1) := by decide +kernel
theorem dX7_findTeacher_9 : decode cX7_findTeacher 9 = .ok (.getfield 70, 3) := by decide +kernel
theorem dX7_findTeacher_12 : decode cX7_findTeacher 12 = .ok (.iload_n 3, 1) := by decide +kernel
theorem dX7_findTeacher_13 : decode cX7_findTeacher 13 = .ok (.iconst 0, 1) := by decide +kernel
theorem dX7_findTeacher_14 : decode cX7_findTeacher 14 = .ok (.iastore, 1) := by decide +kernel
theorem dX7_findTeacher_15 : decode cX7_findTeacher 15 = .ok (.iinc 3 1, 3) := by decide +kernel
theorem dX7_findTeacher_18 : decode cX7_findTeacher 18 = .ok (.goto (-16), 3) := by decide +kernel
theorem dX7_findTeacher_21 : decode cX7_findTeacher 21 = .ok (.iconst 0, 1) := by decide +kernel
theorem dX7_findTeacher_22 : decode cX7_findTeacher 22 = .ok (.istore_n 3, 1) := by decide +kernel
theorem dX7_findTeacher_23 : decode cX7_findTeacher 23 = .ok (.iload_n 3, 1) := by decide +kernel
theorem dX7_findTeacher_24 : decode cX7_findTeacher 24 = .ok (.aload_n 0, 1) := by decide +kernel
theorem dX7_findTeacher_25 : decode cX7_findTeacher 25 = .ok (.getfield 38, 3) := by decide +kernel
theorem dX7_findTeacher_28 : decode cX7_findTeacher 28 = .ok (.getfield 214, 3) := by decide +kernel
theorem dX7_findTeacher_31 : decode cX7_findTeacher 31 = .ok (.if_icmp .ge 40, 3) := by decide +kernel
theorem dX7_findTeacher_34 : decode cX7_findTeacher 34 = .ok (.aload_n 0, 1) := by decide +kernel
theorem dX7_findTeacher_35 : decode cX7_findTeacher 35 = .ok (.getfield 38, 3) := by decide +kernel
theorem dX7_findTeacher_38 : decode cX7_findTeacher 38 = .ok (.iload_n 3, 1) := by decide +kernel
theorem dX7_findTeacher_39 : decode cX7_findTeacher 39 = .ok (.iload_n 1, 1) := by decide +kernel
theorem dX7_findTeacher_40 : decode cX7_findTeacher 40 = .ok (.iload_n 2, 1) := by decide +kernel
theorem dX7_findTeacher_41 : decode cX7_findTeacher 41 = .ok (.invokevirtual 265, 3) := by decide +kernel
theorem dX7_findTeacher_44 : decode cX7_findTeacher 44 = .ok (.ifCond .eq 21, 3) := by decide +kernel
theorem dX7_findTeacher_47 : decode cX7_findTeacher 47 = .ok (.aload_n 0, 1) := by decide +kernel
theorem dX7_findTeacher_48 : decode cX7_findTeacher 48 = .ok (.getfield 70, 3) := by decide +kernel
theorem dX7_findTeacher_51 : decode cX7_findTeacher 51 = .ok (.aload_n 0, 1) := by decide +kernel
theorem dX7_findTeacher_52 : decode cX7_findTeacher 52 = .ok (.getfield 38, 3) := by decide +kernel
theorem dX7_findTeacher_55 : decode cX7_findTeacher 55 = .ok (.iload_n 3, 1) := by decide +kernel
theorem dX7_findTeacher_56 : decode cX7_findTeacher 56 = .ok (.iconst 1, 1) := by decide +kernel
theorem dX7_findTeacher_57 : decode cX7_findTeacher 57 = .ok (.invokevirtual 248, 3) := by decide +kernel
theorem dX7_findTeacher_60 : decode cX7_findTeacher 60 = .ok (.dup2, 1) := by decide +kernel
theorem dX7_findTeacher_61 : decode cX7_findTeacher 61 = .ok (.iaload, 1) := by decide +kernel
theorem dX7_findTeacher_62 : decode cX7_findTeacher 62 = .ok (.iconst 1, 1) := by decide +kernel
theorem dX7_findTeacher_63 : decode cX7_findTeacher 63 = .ok (.iadd, 1) := by decide +kernel
theorem dX7_findTeacher_64 : decode cX7_findTeacher 64 = .ok (.iastore, 1) := by decide +kernel
theorem dX7_findTeacher_65 : decode cX7_findTeacher 65 = .ok (.iinc 3 1, 3) := by decide +kernel
theorem dX7_findTeacher_68 : decode cX7_findTeacher 68 = .ok (.goto (-45), 3) := by decide +kernel
theorem dX7_findTeacher_71 : decode cX7_findTeacher 71 = .ok (.iconst (-1), 1) := by decide +kernel
theorem dX7_findTeacher_72 : decode cX7_findTeacher 72 = .ok (.istore_n 3, 1) := by decide +kernel
theorem dX7_findTeacher_73 : decode cX7_findTeacher 73 = .ok (.iconst 0, 1) := by decide +kernel
theorem dX7_findTeacher_74 : decode cX7_findTeacher 74 = .ok (.istore 4, 2) := by decide +kernel
theorem dX7_findTeacher_76 : decode cX7_findTeacher 76 = .ok (.iconst 0, 1) := by decide +kernel
theorem dX7_findTeacher_77 : decode cX7_findTeacher 77 = .ok (.istore 5, 2) := by decide +kernel
theorem dX7_findTeacher_79 : decode cX7_findTeacher 79 = .ok (.iload 5, 2) := by decide +kernel
theorem dX7_findTeacher_81 : decode cX7_findTeacher 81 = .ok (.bipush 24, 2) := by decide +kernel
theorem dX7_findTeacher_83 : decode cX7_findTeacher 83 = .ok (.if_icmp .ge 33, 3) := by decide +kernel
theorem dX7_findTeacher_86 : decode cX7_findTeacher 86 = .ok (.aload_n 0, 1) := by decide +kernel
theorem dX7_findTeacher_87 : decode cX7_findTeacher 87 = .ok (.getfield 70, 3) := by decide +kernel
theorem dX7_findTeacher_90 : decode cX7_findTeacher 90 = .ok (.iload 5, 2) := by decide +kernel
theorem dX7_findTeacher_92 : decode cX7_findTeacher 92 = .ok (.iaload, 1) := by decide +kernel
theorem dX7_findTeacher_93 : decode cX7_findTeacher 93 = .ok (.iload 4, 2) := by decide +kernel
theorem dX7_findTeacher_95 : decode cX7_findTeacher 95 = .ok (.if_icmp .le 15, 3) := by decide +kernel
theorem dX7_findTeacher_98 : decode cX7_findTeacher 98 = .ok (.aload_n 0, 1) := by decide +kernel
theorem dX7_findTeacher_99 : decode cX7_findTeacher 99 = .ok (.getfield 70, 3) := by decide +kernel
theorem dX7_findTeacher_102 : decode cX7_findTeacher 102 = .ok (.iload 5, 2) := by decide +kernel
theorem dX7_findTeacher_104 : decode cX7_findTeacher 104 = .ok (.iaload, 1) := by decide +kernel
theorem dX7_findTeacher_105 : decode cX7_findTeacher 105 = .ok (.istore 4, 2) := by decide +kernel
theorem dX7_findTeacher_107 : decode cX7_findTeacher 107 = .ok (.iload 5, 2) := by decide +kernel
theorem dX7_findTeacher_109 : decode cX7_findTeacher 109 = .ok (.istore_n 3, 1) := by decide +kernel
theorem dX7_findTeacher_110 : decode cX7_findTeacher 110 = .ok (.iinc 5 1, 3) := by decide +kernel
theorem dX7_findTeacher_113 : decode cX7_findTeacher 113 = .ok (.goto (-34), 3) := by decide +kernel
theorem dX7_findTeacher_116 : decode cX7_findTeacher 116 = .ok (.iload_n 3, 1) := by decide +kernel
theorem dX7_findTeacher_117 : decode cX7_findTeacher 117 = .ok (.ireturn, 1) := by decide +kernel
theorem dX2_comparison_0 : decode cX2_comparison 0 = .ok (.aload_n 0, 1) := by decide +kernel
theorem dX2_comparison_1 : decode cX2_comparison 1 = .ok (.bipush 60, 2) := by decide +kernel
theorem dX2_comparison_3 : decode cX2_comparison 3 = .ok (.invokevirtual 74, 3) := by decide +kernel
theorem dX2_comparison_6 : decode cX2_comparison 6 = .ok (.ifCond .eq 7, 3) := by decide +kernel
theorem dX2_comparison_9 : decode cX2_comparison 9 = .ok (.sipush 2006, 3) := by decide +kernel
theorem dX2_comparison_12 : decode cX2_comparison 12 = .ok (.ireturn, 1) := by decide +kernel
theorem dX2_comparison_13 : decode cX2_comparison 13 = .ok (.aload_n 0, 1) := by decide +kernel
theorem dX2_comparison_14 : decode cX2_comparison 14 = .ok (.bipush 62, 2) := by decide +kernel
theorem dX2_comparison_16 : decode cX2_comparison 16 = .ok (.invokevirtual 74, 3) := by decide +kernel
theorem dX2_comparison_19 : decode cX2_comparison 19 = .ok (.ifCond .eq 7, 3) := by decide +kernel
theorem dX2_comparison_22 : decode cX2_comparison 22 = .ok (.sipush 2007, 3) := by decide +kernel
theorem dX2_comparison_25 : decode cX2_comparison 25 = .ok (.ireturn, 1) := by decide +kernel
theorem dX2_comparison_26 : decode cX2_comparison 26 = .ok (.aload_n 0, 1) := by decide +kernel
theorem dX2_comparison_27 : decode cX2_comparison 27 = .ok (.bipush 61, 2) := by decide +kernel
theorem dX2_comparison_29 : decode cX2_comparison 29 = .ok (.invokevirtual 74, 3) := by decide +kernel
theorem dX2_comparison_32 : decode cX2_comparison 32 = .ok (.ifCond .eq 9, 3) := by decide +kernel
theorem dX2_comparison_35 : decode cX2_comparison 35 = .ok (.sipush 2008, 3) := by decide +kernel
theorem dX2_comparison_38 : decode cX2_comparison 38 = .ok (.goto 4, 3) := by decide +kernel
theorem dX2_comparison_41 : decode cX2_comparison 41 = .ok (.iconst (-1), 1) := by decide +kernel
theorem dX2_comparison_42 : decode cX2_comparison 42 = .ok (.ireturn, 1) := by decide +kernel
