theorem dX4_init_15 : decode cX4_init 15 = .ok (.newarray .int, 2) := by decide +kernel
theorem dX4_init_17 : decode cX4_init 17 = .ok (.putfield 13, 3) := by decide +kernel
theorem dX4_init_20 : decode cX4_init 20 = .ok (.aload_n 0, 1) := by decide +kernel
theorem dX4_init_21 : decode cX4_init 21 = .ok (.sipush 320, 3) := by decide +kernel
theorem dX4_init_24 : decode cX4_init 24 = .ok (.newarray .long, 2) := by decide +kernel
theorem dX4_init_26 : decode cX4_init 26 = .ok (.putfield 16, 3) := by decide +kernel
theorem dX4_init_29 : decode cX4_init 29 = .ok (.aload_n 0, 1) := by decide +kernel
theorem dX4_init_30 : decode cX4_init 30 = .ok (.bipush 9, 2) := by decide +kernel
theorem dX4_init_32 : decode cX4_init 32 = .ok (.newarray .int, 2) := by decide +kernel
theorem dX4_init_34 : decode cX4_init 34 = .ok (.putfield 20, 3) := by decide +kernel
theorem dX4_init_37 : decode cX4_init 37 = .ok (.aload_n 0, 1) := by decide +kernel
theorem dX4_init_38 : decode cX4_init 38 = .ok (.bipush 6, 2) := by decide +kernel
theorem dX4_init_40 : decode cX4_init 40 = .ok (.newarray .int, 2) := by decide +kernel
theorem dX4_init_42 : decode cX4_init 42 = .ok (.putfield 23, 3) := by decide +kernel
theorem dX4_init_45 : decode cX4_init 45 = .ok (.aload_n 0, 1) := by decide +kernel
theorem dX4_init_46 : decode cX4_init 46 = .ok (.bipush 6, 2) := by decide +kernel
theorem dX4_init_48 : decode cX4_init 48 = .ok (.newarray .int, 2) := by decide +kernel
theorem dX4_init_50 : decode cX4_init 50 = .ok (.putfield 26, 3) := by decide +kernel
theorem dX4_init_53 : decode cX4_init 53 = .ok (.aload_n 0, 1) := by decide +kernel
theorem dX4_init_54 : decode cX4_init 54 = .ok (.sipush 250, 3) := by decide +kernel
theorem dX4_init_57 : decode cX4_init 57 = .ok (.newarray .int, 2) := by decide +kernel
theorem dX4_init_59 : decode cX4_init 59 = .ok (.putfield 29, 3) := by decide +kernel
theorem dX4_init_62 : decode cX4_init 62 = .ok (.aload_n 0, 1) := by decide +kernel
theorem dX4_init_63 : decode cX4_init 63 = .ok (.bipush 7, 2) := by decide +kernel
theorem dX4_init_65 : decode cX4_init 65 = .ok (.newarray .int, 2) := by decide +kernel
theorem dX4_init_67 : decode cX4_init 67 = .ok (.putfield 32, 3) := by decide +kernel
theorem dX4_init_70 : decode cX4_init 70 = .ok (.aload_n 0, 1) := by decide +kernel
theorem dX4_init_71 : decode cX4_init 71 = .ok (.bipush 28, 2) := by decide +kernel
theorem dX4_init_73 : decode cX4_init 73 = .ok (.newarray .int, 2) := by decide +kernel
theorem dX4_init_75 : decode cX4_init 75 = .ok (.putfield 35, 3) := by decide +kernel
theorem dX4_init_78 : decode cX4_init 78 = .ok (.aload_n 0, 1) := by decide +kernel
theorem dX4_init_79 : decode cX4_init 79 = .ok (.bipush 28, 2) := by decide +kernel
theorem dX4_init_81 : decode cX4_init 81 = .ok (.newarray .int, 2) := by decide +kernel
theorem dX4_init_83 : decode cX4_init 83 = .ok (.putfield 38, 3) := by decide +kernel
theorem dX4_init_86 : decode cX4_init 86 = .ok (.aload_n 0, 1) := by decide +kernel
theorem dX4_init_87 : decode cX4_init 87 = .ok (.bipush 9, 2) := by decide +kernel
theorem dX4_init_89 : decode cX4_init 89 = .ok (.newarray .int, 2) := by decide +kernel
theorem dX4_init_91 : decode cX4_init 91 = .ok (.putfield 41, 3) := by decide +kernel
theorem dX4_init_94 : decode cX4_init 94 = .ok (.iconst 0, 1) := by decide +kernel
theorem dX4_init_95 : decode cX4_init 95 = .ok (.istore_n 1, 1) := by decide +kernel
theorem dX4_init_96 : decode cX4_init 96 = .ok (.iload_n 1, 1) := by decide +kernel
theorem dX4_init_97 : decode cX4_init 97 = .ok (.bipush 8, 2) := by decide +kernel
theorem dX4_init_99 : decode cX4_init 99 = .ok (.if_icmp .ge 16, 3) := by decide +kernel
theorem dX4_init_102 : decode cX4_init 102 = .ok (.aload_n 0, 1) := by decide +kernel
theorem dX4_init_103 : decode cX4_init 103 = .ok (.getfield 7, 3) := by decide +kernel
theorem dX4_init_106 : decode cX4_init 106 = .ok (.iload_n 1, 1) := by decide +kernel
theorem dX4_init_107 : decode cX4_init 107 = .ok (.iconst (-1), 1) := by decide +kernel
theorem dX4_init_108 : decode cX4_init 108 = .ok (.iastore, 1) := by decide +kernel
theorem dX4_init_109 : decode cX4_init 109 = .ok (.iinc 1 1, 3) := by decide +kernel
theorem dX4_init_112 : decode cX4_init 112 = .ok (.goto (-16), 3) := by decide +kernel
theorem dX4_init_115 : decode cX4_init 115 = .ok (.aload_n 0, 1) := by decide +kernel
theorem dX4_init_116 : decode cX4_init 116 = .ok (.iconst 5, 1) := by decide +kernel
theorem dX4_init_117 : decode cX4_init 117 = .ok (.invokevirtual 44, 3) := by decide +kernel
theorem dX4_init_120 : decode cX4_init 120 = .ok (.aload_n 0, 1) := by decide +kernel
theorem dX4_init_121 : decode cX4_init 121 = .ok (.iconst 1, 1) := by decide +kernel
theorem dX4_init_122 : decode cX4_init 122 = .ok (.putfield 48, 3) := by decide +kernel
theorem dX4_init_125 : decode cX4_init 125 = .ok (.aload_n 0, 1) := by decide +kernel
theorem dX4_init_126 : decode cX4_init 126 = .ok (.iconst 1, 1) := by decide +kernel
theorem dX4_init_127 : decode cX4_init 127 = .ok (.putfield 52, 3) := by decide +kernel
theorem dX4_init_130 : decode cX4_init 130 = .ok (.aload_n 0, 1) := by decide +kernel
theorem dX4_init_131 : decode cX4_init 131 = .ok (.iconst (-1), 1) := by decide +kernel
theorem dX4_init_132 : decode cX4_init 132 = .ok (.putfield 55, 3) := by decide +kernel
theorem dX4_init_135 : decode cX4_init 135 = .ok (.return_, 1) := by decide +kernel
theorem dX4_no_0 : decode cX4_no 0 = .ok (.aload_n 0, 1) := by decide +kernel
theorem dX4_no_1 : decode cX4_no 1 = .ok (.getfield 32, 3) := by decide +kernel
theorem dX4_no_4 : decode cX4_no 4 = .ok (.iload_n 1, 1) := by decide +kernel
theorem dX4_no_5 : decode cX4_no 5 = .ok (.ineg, 1) := by decide +kernel
theorem dX4_no_6 : decode cX4_no 6 = .ok (.dup2, 1) := by decide +kernel
theorem dX4_no_7 : decode cX4_no 7 = .ok (.iaload, 1) := by decide +kernel
theorem dX4_no_8 : decode cX4_no 8 = .ok (.iconst 1, 1) := by decide +kernel
theorem dX4_no_9 : decode cX4_no 9 = .ok (.iadd, 1) := by decide +kernel
theorem dX4_no_10 : decode cX4_no 10 = .ok (.iastore, 1) := by decide +kernel
theorem dX4_no_11 : decode cX4_no 11 = .ok (.iload_n 1, 1) := by decide +kernel
theorem dX4_no_12 : decode cX4_no 12 = .ok (.ireturn, 1) := by decide +kernel
theorem dX4_noFar_0 : decode cX4_noFar 0 = .ok (.aload_n 0, 1) := by decide +kernel
theorem dX4_noFar_1 : decode cX4_noFar 1 = .ok (.getfield 32, 3) := by decide +kernel
theorem dX4_noFar_4 : decode cX4_noFar 4 = .ok (.iload_n 1, 1) := by decide +kernel
theorem dX4_noFar_5 : decode cX4_noFar 5 = .ok (.ineg, 1) := by decide +kernel
theorem dX4_noFar_6 : decode cX4_noFar 6 = .ok (.dup2, 1) := by decide +kernel
theorem dX4_noFar_7 : decode cX4_noFar 7 = .ok (.iaload, 1) := by decide +kernel
theorem dX4_noFar_8 : decode cX4_noFar 8 = .ok (.iconst 1, 1) := by decide +kernel
theorem dX4_noFar_9 : decode cX4_noFar 9 = .ok (.iadd, 1) := by decide +kernel
theorem dX4_noFar_10 : decode cX4_noFar 10 = .ok (.iastore, 1) := by decide +kernel
theorem dX4_noFar_11 : decode cX4_noFar 11 = .ok (.ldc 58, 2) := by decide +kernel
theorem dX4_noFar_13 : decode cX4_noFar 13 = .ok (.iload_n 1, 1) := by decide +kernel
theorem dX4_noFar_14 : decode cX4_noFar 14 = .ok (.iadd, 1) := by decide +kernel
theorem dX4_noFar_15 : decode cX4_noFar 15 = .ok (.ireturn, 1) := by decide +kernel
theorem dX4_within_0 : decode cX4_within 0 = .ok (.iload_n 0, 1) := by decide +kernel
theorem dX4_within_1 : decode cX4_within 1 = .ok (.iload_n 1, 1) := by decide +kernel
theorem dX4_within_2 : decode cX4_within 2 = .ok (.if_icmp .lt 12, 3) := by decide +kernel
theorem dX4_within_5 : decode cX4_within 5 = .ok (.iload_n 0, 1) := by decide +kernel
theorem dX4_within_6 : decode cX4_within 6 = .ok (.iload_n 2, 1) := by decide +kernel
theorem dX4_within_7 : decode cX4_within 7 = .ok (.if_icmp .gt 7, 3) := by decide +kernel
theorem dX4_within_10 : decode cX4_within 10 = .ok (.iconst 1, 1) := by decide +kernel
theorem dX4_within_11 : decode cX4_within 11 = .ok (.goto 4, 3) := by decide +kernel
theorem dX4_within_14 : decode cX4_within 14 = .ok (.iconst 0, 1) := by decide +kernel
theorem dX4_within_15 : decode cX4_within 15 = .ok (.ireturn, 1) := by decide +kernel
theorem dX4_has_0 : decode cX4_has 0 = .ok (.iload_n 0, 1) := by decide +kernel
theorem dX4_has_1 : decode cX4_has 1 = .ok (.iload_n 1, 1) := by decide +kernel
theorem dX4_has_2 : decode cX4_has 2 = .ok (.ishr, 1) := by decide +kernel
theorem dX4_has_3 : decode cX4_has 3 = .ok (.iconst 1, 1) := by decide +kernel
theorem dX4_has_4 : decode cX4_has 4 = .ok (.iand, 1) := by decide +kernel
theorem dX4_has_5 : decode cX4_has 5 = .ok (.iconst 1, 1) := by decide +kernel
theorem dX4_has_6 : decode cX4_has 6 = .ok (.if_icmp .ne 7, 3) := by decide +kernel
theorem dX4_has_9 : decode cX4_has 9 = .ok (.iconst 1, 1) := by decide +kernel
theorem dX4_has_10 : decode cX4_has 10 = .ok (.goto 4, 3) := by decide +kernel
theorem dX4_has_13 : decode cX4_has 13 = .ok (.iconst 0, 1) := by decide +kernel
theorem dX4_has_14 : decode cX4_has 14 = .ok (.ireturn, 1) := by decide +kernel
theorem dX4_isOne_0 : decode cX4_isOne 0 = .ok (.iload_n 1, 1) := by decide +kernel
theorem dX4_isOne_1 : decode cX4_isOne 1 = .ok (.iconst 0, 1) := by decide +kernel
theorem dX4_isOne_2 : decode cX4_isOne 2 = .ok (.aload_n 0, 1) := by decide +kernel
theorem dX4_isOne_3 : decode cX4_isOne 3 = .ok (.getfield 59, 3) := by decide +kernel
theorem dX4_isOne_6 : decode cX4_isOne 6 = .ok (.iconst 1, 1) := by decide +kernel
theorem dX4_isOne_7 : decode cX4_isOne 7 = .ok (.isub, 1) := by decide +kernel
theorem dX4_isOne_8 : decode cX4_isOne 8 = .ok (.invokestatic 62, 3) := by decide +kernel
theorem dX4_isOne_11 : decode cX4_isOne 11 = .ok (.ireturn, 1) := by decide +kernel
theorem dX4_isMorning_0 : decode cX4_isMorning 0 = .ok (.iload_n 1, 1) := by decide +kernel
theorem dX4_isMorning_1 : decode cX4_isMorning 1 = .ok (.iconst 0, 1) := by decide +kernel
theorem dX4_isMorning_2 : decode cX4_isMorning 2 = .ok (.aload_n 0, 1) := by decide +kernel
theorem dX4_isMorning_3 : decode cX4_isMorning 3 = .ok (.getfield 66, 3) := by decide +kernel
theorem dX4_isMorning_6 : decode cX4_isMorning 6 = .ok (.iconst 1, 1) := by decide +kernel
theorem dX4_isMorning_7 : decode cX4_isMorning 7 = .ok (.isub, 1) := by decide +kernel
theorem dX4_isMorning_8 : decode cX4_isMorning 8 = .ok (.invokestatic 62, 3) := by decide +kernel
theorem dX4_isMorning_11 : decode cX4_isMorning 11 = .ok (.ireturn, 1) := by decide +kernel
theorem dX4_isRow_0 : decode cX4_isRow 0 = .ok (.aload_n 0, 1) := by decide +kernel
theorem dX4_isRow_1 : decode cX4_isRow 1 = .ok (.getfield 7, 3) := by decide +kernel
theorem dX4_isRow_4 : decode cX4_isRow 4 = .ok (.iload_n 1, 1) := by decide +kernel
theorem dX4_isRow_5 : decode cX4_isRow 5 = .ok (.iaload, 1) := by decide +kernel
theorem dX4_isRow_6 : decode cX4_isRow 6 = .ok (.iconst 0, 1) := by decide +kernel
theorem dX4_isRow_7 : decode cX4_isRow 7 = .ok (.iconst 4, 1) := by decide +kernel
theorem dX4_isRow_8 : decode cX4_isRow 8 = .ok (.invokestatic 62, 3) := by decide +kernel
theorem dX4_isRow_11 : decode cX4_isRow 11 = .ok (.ireturn, 1) := by decide +kernel
theorem dX4_row_0 : decode cX4_row 0 = .ok (.iload_n 1, 1) := by decide +kernel
theorem dX4_row_1 : decode cX4_row 1 = .ok (.iconst 0, 1) := by decide +kernel
theorem dX4_row_2 : decode cX4_row 2 = .ok (.bipush 7, 2) := by decide +kernel
theorem dX4_row_4 : decode cX4_row 4 = .ok (.invokestatic 62, 3) := by decide +kernel
theorem dX4_row_7 : decode cX4_row 7 = .ok (.ifCond .eq 22, 3) := by decide +kernel
theorem dX4_row_10 : decode cX4_row 10 = .ok (.iload_n 2, 1) := by decide +kernel
theorem dX4_row_11 : decode cX4_row 11 = .ok (.iconst 0, 1) := by decide +kernel
theorem dX4_row_12 : decode cX4_row 12 = .ok (.iconst 4, 1) := by decide +kernel
theorem dX4_row_13 : decode cX4_row 13 = .ok (.invokestatic 62, 3) := by decide +kernel
theorem dX4_row_16 : decode cX4_row 16 = .ok (.ifCond .eq 13, 3) := by decide +kernel
theorem dX4_row_19 : decode cX4_row 19 = .ok (.iload_n 3, 1) := by decide +kernel
theorem dX4_row_20 : decode cX4_row 20 = .ok (.iconst 0, 1) := by decide +kernel
theorem dX4_row_21 : decode cX4_row 21 = .ok (.bipush 40, 2) := by decide +kernel
theorem dX4_row_23 : decode cX4_row 23 = .ok (.invokestatic 62, 3) := by decide +kernel
theorem dX4_row_26 : decode cX4_row 26 = .ok (.ifCond .ne 10, 3) := by decide +kernel
theorem dX4_row_29 : decode cX4_row 29 = .ok (.aload_n 0, 1) := by decide +kernel
theorem dX4_row_30 : decode cX4_row 30 = .ok (.bipush (-2), 2) := by decide +kernel
theorem dX4_row_32 : decode cX4_row 32 = .ok (.invokevirtual 69, 3) := by decide +kernel
theorem dX4_row_35 : decode cX4_row 35 = .ok (.ireturn, 1) := by decide +kernel
theorem dX4_row_36 : decode cX4_row 36 = .ok (.aload_n 0, 1) := by decide +kernel
theorem dX4_row_37 : decode cX4_row 37 = .ok (.getfield 7, 3) := by decide +kernel
theorem dX4_row_40 : decode cX4_row 40 = .ok (.iload_n 1, 1) := by decide +kernel
theorem dX4_row_41 : decode cX4_row 41 = .ok (.iload_n 2, 1) := by decide +kernel
theorem dX4_row_42 : decode cX4_row 42 = .ok (.iastore, 1) := by decide +kernel
theorem dX4_row_43 : decode cX4_row 43 = .ok (.aload_n 0, 1) := by decide +kernel
theorem dX4_row_44 : decode cX4_row 44 = .ok (.getfield 13, 3) := by decide +kernel
theorem dX4_row_47 : decode cX4_row 47 = .ok (.iload_n 1, 1) := by decide +kernel
theorem dX4_row_48 : decode cX4_row 48 = .ok (.iload_n 3, 1) := by decide +kernel
theorem dX4_row_49 : decode cX4_row 49 = .ok (.iastore, 1) := by decide +kernel
theorem dX4_row_50 : decode cX4_row 50 = .ok (.iconst 0, 1) := by decide +kernel
theorem dX4_row_51 : decode cX4_row 51 = .ok (.istore 4, 2) := by decide +kernel
theorem dX4_row_53 : decode cX4_row 53 = .ok (.iload 4, 2) := by decide +kernel
theorem dX4_row_55 : decode cX4_row 55 = .ok (.bipush 40, 2) := by decide +kernel
theorem dX4_row_57 : decode cX4_row 57 = .ok (.if_icmp .ge 22, 3) := by decide +kernel
theorem dX4_row_60 : decode cX4_row 60 = .ok (.aload_n 0, 1) := by decide +kernel
theorem dX4_row_61 : decode cX4_row 61 = .ok (.getfield 16, 3) := by decide +kernel
theorem dX4_row_64 : decode cX4_row 64 = .ok (.bipush 40, 2) := by decide +kernel
theorem dX4_row_66 : decode cX4_row 66 = .ok (.iload_n 1, 1) := by decide +kernel
theorem dX4_row_67 : decode cX4_row 67 = .ok (.imul, 1) := by decide +kernel
theorem dX4_row_68 : decode cX4_row 68 = .ok (.iload 4, 2) := by decide +kernel
theorem dX4_row_70 : decode cX4_row 70 = .ok (.iadd, 1) := by decide +kernel
theorem dX4_row_71 : decode cX4_row 71 = .ok (.lconst 0, 1) := by decide +kernel
theorem dX4_row_72 : decode cX4_row 72 = .ok (.lastore, 1) := by decide +kernel
theorem dX4_row_73 : decode cX4_row 73 = .ok (.iinc 4 1, 3) := by decide +kernel
theorem dX4_row_76 : decode cX4_row 76 = .ok (.goto (-23), 3) := by decide +kernel
theorem dX4_row_79 : decode cX4_row 79 = .ok (.iconst 1, 1) := by decide +kernel
theorem dX4_row_80 : decode cX4_row 80 = .ok (.ireturn, 1) := by decide +kernel
theorem dX4_noRow_0 : decode cX4_noRow 0 = .ok (.iload_n 1, 1) := by decide +kernel
theorem dX4_noRow_1 : decode cX4_noRow 1 = .ok (.iconst 0, 1) := by decide +kernel
theorem dX4_noRow_2 : decode cX4_noRow 2 = .ok (.bipush 7, 2) := by decide +kernel
theorem dX4_noRow_4 : decode cX4_noRow 4 = .ok (.invokestatic 62, 3) := by decide +kernel
theorem dX4_noRow_7 : decode cX4_noRow 7 = .ok (.ifCond .ne 6, 3) := by decide +kernel
theorem dX4_noRow_10 : decode cX4_noRow 10 = .ok (.bipush (-2), 2) := by decide +kernel
theorem dX4_noRow_12 : decode cX4_noRow 12 = .ok (.ireturn, 1) := by decide +kernel
theorem dX4_noRow_13 : decode cX4_noRow 13 = .ok (.aload_n 0, 1) := by decide +kernel
theorem dX4_noRow_14 : decode cX4_noRow 14 = .ok (.getfield 7, 3) := by decide +kernel
theorem dX4_noRow_17 : decode cX4_noRow 17 = .ok (.iload_n 1, 1) := by decide +kernel
theorem dX4_noRow_18 : decode cX4_noRow 18 = .ok (.iaload, 1) := by decide +kernel
theorem dX4_noRow_19 : decode cX4_noRow 19 = .ok (.iconst 4, 1) := by decide +kernel
theorem dX4_noRow_20 : decode cX4_noRow 20 = .ok (.if_icmp .le 6, 3) := by decide +kernel
theorem dX4_noRow_23 : decode cX4_noRow 23 = .ok (.bipush (-3), 2) := by decide +kernel
theorem dX4_noRow_25 : decode cX4_noRow 25 = .ok (.ireturn, 1) := by decide +kernel
theorem dX4_noRow_26 : decode cX4_noRow 26 = .ok (.aload_n 0, 1) := by decide +kernel
theorem dX4_noRow_27 : decode cX4_noRow 27 = .ok (.getfield 7, 3) := by decide +kernel
theorem dX4_noRow_30 : decode cX4_noRow 30 = .ok (.iload_n 1, 1) := by decide +kernel
theorem dX4_noRow_31 : decode cX4_noRow 31 = .ok (.iaload, 1) := by decide +kernel
theorem dX4_noRow_32 : decode cX4_noRow 32 = .ok (.ifCond .ge 8, 3) := by decide +kernel
theorem dX4_noRow_35 : decode cX4_noRow 35 = .ok (.bipush (-4), 2) := by decide +kernel
theorem dX4_noRow_37 : decode cX4_noRow 37 = .ok (.goto 4, 3) := by decide +kernel
theorem dX4_noRow_40 : decode cX4_noRow 40 = .ok (.iconst 0, 1) := by decide +kernel
theorem dX4_noRow_41 : decode cX4_noRow 41 = .ok (.ireturn, 1) := by decide +kernel
theorem dX4_set_0 : decode cX4_set 0 = .ok (.aload_n 0, 1) := by decide +kernel
theorem dX4_set_1 : decode cX4_set 1 = .ok (.iload_n 1, 1) := by decide +kernel
theorem dX4_set_2 : decode cX4_set 2 = .ok (.invokevirtual 73, 3) := by decide +kernel
theorem dX4_set_5 : decode cX4_set 5 = .ok (.istore 5, 2) := by decide +kernel
theorem dX4_set_7 : decode cX4_set 7 = .ok (.iload 5, 2) := by decide +kernel
theorem dX4_set_9 : decode cX4_set 9 = .ok (.ifCond .ge 10, 3) := by decide +kernel
theorem dX4_set_12 : decode cX4_set 12 = .ok (.aload_n 0, 1) := by decide +kernel
theorem dX4_set_13 : decode cX4_set 13 = .ok (.iload 5, 2) := by decide +kernel
theorem dX4_set_15 : decode cX4_set 15 = .ok (.invokevirtual 69, 3) := by decide +kernel
theorem dX4_set_18 : decode cX4_set 18 = .ok (.ireturn, 1) := by decide +kernel
theorem dX4_set_19 : decode cX4_set 19 = .ok (.iload_n 2, 1) := by decide +kernel
theorem dX4_set_20 : decode cX4_set 20 = .ok (.iconst 0, 1) := by decide +kernel
theorem dX4_set_21 : decode cX4_set 21 = .ok (.aload_n 0, 1) := by decide +kernel
theorem dX4_set_22 : decode cX4_set 22 = .ok (.getfield 13, 3) := by decide +kernel
theorem dX4_set_25 : decode cX4_set 25 = .ok (.iload_n 1, 1) := by decide +kernel
theorem dX4_set_26 : decode cX4_set 26 = .ok (.iaload, 1) := by decide +kernel
theorem dX4_set_27 : decode cX4_set 27 = .ok (.iconst 1, 1) := by decide +kernel
theorem dX4_set_28 : decode cX4_set 28 = .ok (.isub, 1) := by decide +kernel
theorem dX4_set_29 : decode cX4_set 29 = .ok (.invokestatic 62, 3) := by decide +kernel
theorem dX4_set_32 : decode cX4_set 32 = .ok (.ifCond .ne 10, 3) := by decide +kernel
theorem dX4_set_35 : decode cX4_set 35 = .ok (.aload_n 0, 1) := by decide +kernel
theorem dX4_set_36 : decode cX4_set 36 = .ok (.bipush (-2), 2) := by decide +kernel
theorem dX4_set_38 : decode cX4_set 38 = .ok (.invokevirtual 69, 3) := by decide +kernel
theorem dX4_set_41 : decode cX4_set 41 = .ok (.ireturn, 1) := by decide +kernel
theorem dX4_set_42 : decode cX4_set 42 = .ok (.lload_n 3, 1) := by decide +kernel
theorem dX4_set_43 : decode cX4_set 43 = .ok (.lstore 6, 2) := by decide +kernel
theorem dX4_set_45 : decode cX4_set 45 = .ok (.aload_n 0, 1) := by decide +kernel
theorem dX4_set_46 : decode cX4_set 46 = .ok (.getfield 7, 3) := by decide +kernel
theorem dX4_set_49 : decode cX4_set 49 = .ok (.iload_n 1, 1) := by decide +kernel
theorem dX4_set_50 : decode cX4_set 50 = .ok (.iaload, 1) := by decide +kernel
theorem dX4_set_51 : decode cX4_set 51 = .ok (.ifCond .ne 9, 3) := by decide +kernel
theorem dX4_set_54 : decode cX4_set 54 = .ok (.lload_n 3, 1) := by decide +kernel
theorem dX4_set_55 : decode cX4_set 55 = .ok (.l2i, 1) := by decide +kernel
theorem dX4_set_56 : decode cX4_set 56 = .ok (.i2b, 1) := by decide +kernel
theorem dX4_set_57 : decode cX4_set 57 = .ok (.i2l, 1) := by decide +kernel
theorem dX4_set_58 : decode cX4_set 58 = .ok (.lstore 6, 2) := by decide +kernel
theorem dX4_set_60 : decode cX4_set 60 = .ok (.aload_n 0, 1) := by decide +kernel
theorem dX4_set_61 : decode cX4_set 61 = .ok (.getfield 7, 3) := by decide +kernel
theorem dX4_set_64 : decode cX4_set 64 = .ok (.iload_n 1, 1) := by decide +kernel
theorem dX4_set_65 : decode cX4_set 65 = .ok (.iaload, 1) := by decide +kernel
theorem dX4_set_66 : decode cX4_set 66 = .ok (.iconst 1, 1) := by decide +kernel
theorem dX4_set_67 : decode cX4_set 67 = .ok (.if_icmp .ne 9, 3) := by decide +kernel
theorem dX4_set_70 : decode cX4_set 70 = .ok (.lload_n 3, 1) := by decide +kernel
theorem dX4_set_71 : decode cX4_set 71 = .ok (.l2i, 1) := by decide +kernel
theorem dX4_set_72 : decode cX4_set 72 = .ok (.i2s, 1) := by decide +kernel
theorem dX4_set_73 : decode cX4_set 73 = .ok (.i2l, 1) := by decide +kernel
theorem dX4_set_74 : decode cX4_set 74 = .ok (.lstore 6, 2) := by decide +kernel
theorem dX4_set_76 : decode cX4_set 76 = .ok (.aload_n 0, 1) := by decide +kernel
theorem dX4_set_77 : decode cX4_set 77 = .ok (.getfield 7, 3) := by decide +kernel
theorem dX4_set_80 : decode cX4_set 80 = .ok (.iload_n 1, 1) := by decide +kernel
theorem dX4_set_81 : decode cX4_set 81 = .ok (.iaload, 1) := by decide +kernel
theorem dX4_set_82 : decode cX4_set 82 = .ok (.iconst 2, 1) := by decide +kernel
theorem dX4_set_83 : decode cX4_set 83 = .ok (.if_icmp .ne 8, 3) := by decide +kernel
theorem dX4_set_86 : decode cX4_set 86 = .ok (.lload_n 3, 1) := by decide +kernel
theorem dX4_set_87 : decode cX4_set 87 = .ok (.l2i, 1) := by decide +kernel
theorem dX4_set_88 : decode cX4_set 88 = .ok (.i2l, 1) := by decide +kernel
theorem dX4_set_89 : decode cX4_set 89 = .ok (.lstore 6, 2) := by decide +kernel
theorem dX4_set_91 : decode cX4_set 91 = .ok (.aload_n 0, 1) := by decide +kernel
theorem dX4_set_92 : decode cX4_set 92 = .ok (.getfield 7, 3) := by decide +kernel
theorem dX4_set_95 : decode cX4_set 95 = .ok (.iload_n 1, 1) := by decide +kernel
theorem dX4_set_96 : decode cX4_set 96 = .ok (.iaload, 1) := by decide +kernel
theorem dX4_set_97 : decode cX4_set 97 = .ok (.iconst 4, 1) := by decide +kernel
theorem dX4_set_98 : decode cX4_set 98 = .ok (.if_icmp .ne 16, 3) := by decide +kernel
theorem dX4_set_101 : decode cX4_set 101 = .ok (.lload_n 3, 1) := by decide +kernel
theorem dX4_set_102 : decode cX4_set 102 = .ok (.lconst 0, 1) := by decide +kernel
theorem dX4_set_103 : decode cX4_set 103 = .ok (.lcmp, 1) := by decide +kernel
theorem dX4_set_104 : decode cX4_set 104 = .ok (.ifCond .eq 7, 3) := by decide +kernel
theorem dX4_set_107 : decode cX4_set 107 = .ok (.lconst 1, 1) := by decide +kernel
theorem dX4_set_108 : decode cX4_set 108 = .ok (.goto 4, 3) := by decide +kernel
theorem dX4_set_111 : decode cX4_set 111 = .ok (.lconst 0, 1) := by decide +kernel
theorem dX4_set_112 : decode cX4_set 112 = .ok (.lstore 6, 2) := by decide +kernel
theorem dX4_set_114 : decode cX4_set 114 = .ok (.aload_n 0, 1) := by decide +kernel
theorem dX4_set_115 : decode cX4_set 115 = .ok (.getfield 16, 3) := by decide +kernel
theorem dX4_set_118 : decode cX4_set 118 = .ok (.bipush 40, 2) := by decide +kernel
theorem dX4_set_120 : decode cX4_set 120 = .ok (.iload_n 1, 1) := by decide +kernel
theorem dX4_set_121 : decode cX4_set 121 = .ok (.imul, 1) := by decide +kernel
theorem dX4_set_122 : decode cX4_set 122 = .ok (.iload_n 2, 1) := by decide +kernel
theorem dX4_set_123 : decode cX4_set 123 = .ok (.iadd, 1) := by decide +kernel
theorem dX4_set_124 : decode cX4_set 124 = .ok (.lload 6, 2) := by decide +kernel
theorem dX4_set_126 : decode cX4_set 126 = .ok (.lastore, 1) := by decide +kernel
theorem dX4_set_127 : decode cX4_set 127 = .ok (.iconst 1, 1) := by decide +kernel
theorem dX4_set_128 : decode cX4_set 128 = .ok (.ireturn, 1) := by decide +kernel
theorem dX4_copy_0 : decode cX4_copy 0 = .ok (.iload_n 1, 1) := by decide +kernel
theorem dX4_copy_1 : decode cX4_copy 1 = .ok (.iconst 0, 1) := by decide +kernel
theorem dX4_copy_2 : decode cX4_copy 2 = .ok (.bipush 7, 2) := by decide +kernel
theorem dX4_copy_4 : decode cX4_copy 4 = .ok (.invokestatic 62, 3) := by decide +kernel
theorem dX4_copy_7 : decode cX4_copy 7 = .ok (.ifCond .eq 13, 3) := by decide +kernel
theorem dX4_copy_10 : decode cX4_copy 10 = .ok (.iload_n 2, 1) := by decide +kernel
theorem dX4_copy_11 : decode cX4_copy 11 = .ok (.iconst 0, 1) := by decide +kernel
theorem dX4_copy_12 : decode cX4_copy 12 = .ok (.bipush 7, 2) := by decide +kernel
theorem dX4_copy_14 : decode cX4_copy 14 = .ok (.invokestatic 62, 3) := by decide +kernel
theorem dX4_copy_17 : decode cX4_copy 17 = .ok (.ifCond .ne 10, 3) := by decide +kernel
theorem dX4_copy_20 : decode cX4_copy 20 = .ok (.aload_n 0, 1) := by decide +kernel
theorem dX4_copy_21 : decode cX4_copy 21 = .ok (.bipush (-2), 2) := by decide +kernel
theorem dX4_copy_23 : decode cX4_copy 23 = .ok (.invokevirtual 69, 3) := by decide +kernel
theorem dX4_copy_26 : decode cX4_copy 26 = .ok (.ireturn, 1) := by decide +kernel
theorem dX4_copy_27 : decode cX4_copy 27 = .ok (.aload_n 0, 1) := by decide +kernel
theorem dX4_copy_28 : decode cX4_copy 28 = .ok (.getfield 7, 3) := by decide +kernel
theorem dX4_copy_31 : decode cX4_copy 31 = .ok (.iload_n 1, 1) := by decide +kernel
theorem dX4_copy_32 : decode cX4_copy 32 = .ok (.iaload, 1) := by decide +kernel
theorem dX4_copy_33 : decode cX4_copy 33 = .ok (.iconst 4, 1) := by decide +kernel
theorem dX4_copy_34 : decode cX4_copy 34 = .ok (.if_icmp .gt 44, 3) := by decide +kernel
theorem dX4_copy_37 : decode cX4_copy 37 = .ok (.aload_n 0, 1) := by decide +kernel
theorem dX4_copy_38 : decode cX4_copy 38 = .ok (.getfield 7, 3) := by decide +kernel
theorem dX4_copy_41 : decode cX4_copy 41 = .ok (.iload_n 2, 1) := by decide +kernel
theorem dX4_copy_42 : decode cX4_copy 42 = .ok (.iaload, 1) := by decide +kernel
theorem dX4_copy_43 : decode cX4_copy 43 = .ok (.iconst 4, 1) := by decide +kernel
theorem dX4_copy_44 : decode cX4_copy 44 = .ok (.if_icmp .gt 34, 3) := by decide +kernel
theorem dX4_copy_47 : decode cX4_copy 47 = .ok (.aload_n 0, 1) := by decide +kernel
theorem dX4_copy_48 : decode cX4_copy 48 = .ok (.iload_n 1, 1) := by decide +kernel
theorem dX4_copy_49 : decode cX4_copy 49 = .ok (.invokevirtual 76, 3) := by decide +kernel
theorem dX4_copy_52 : decode cX4_copy 52 = .ok (.ifCond .eq 33, 3) := by decide +kernel
theorem dX4_copy_55 : decode cX4_copy 55 = .ok (.aload_n 0, 1) := by decide +kernel
theorem dX4_copy_56 : decode cX4_copy 56 = .ok (.iload_n 2, 1) := by decide +kernel
theorem dX4_copy_57 : decode cX4_copy 57 = .ok (.invokevirtual 76, 3) := by decide +kernel
theorem dX4_copy_60 : decode cX4_copy 60 = .ok (.ifCond .eq 25, 3) := by decide +kernel
theorem dX4_copy_63 : decode cX4_copy 63 = .ok (.aload_n 0, 1) := by decide +kernel
theorem dX4_copy_64 : decode cX4_copy 64 = .ok (.getfield 7, 3) := by decide +kernel
theorem dX4_copy_67 : decode cX4_copy 67 = .ok (.iload_n 1, 1) := by decide +kernel
theorem dX4_copy_68 : decode cX4_copy 68 = .ok (.iaload, 1) := by decide +kernel
theorem dX4_copy_69 : decode cX4_copy 69 = .ok (.aload_n 0, 1) := by decide +kernel
theorem dX4_copy_70 : decode cX4_copy 70 = .ok (.getfield 7, 3) := by decide +kernel
theorem dX4_copy_73 : decode cX4_copy 73 = .ok (.iload_n 2, 1) := by decide +kernel
theorem dX4_copy_74 : decode cX4_copy 74 = .ok (.iaload, 1) := by decide +kernel
theorem dX4_copy_75 : decode cX4_copy 75 = .ok (.if_icmp .eq 10, 3) := by decide +kernel
theorem dX4_copy_78 : decode cX4_copy 78 = .ok (.aload_n 0, 1) := by decide +kernel
theorem dX4_copy_79 : decode cX4_copy 79 = .ok (.bipush (-3), 2) := by decide +kernel
theorem dX4_copy_81 : decode cX4_copy 81 = .ok (.invokevirtual 69, 3) := by decide +kernel
theorem dX4_copy_84 : decode cX4_copy 84 = .ok (.ireturn, 1) := by decide +kernel
theorem dX4_copy_85 : decode cX4_copy 85 = .ok (.aload_n 0, 1) := by decide +kernel
theorem dX4_copy_86 : decode cX4_copy 86 = .ok (.getfield 7, 3) := by decide +kernel
theorem dX4_copy_89 : decode cX4_copy 89 = .ok (.iload_n 1, 1) := by decide +kernel
theorem dX4_copy_90 : decode cX4_copy 90 = .ok (.iaload, 1) := by decide +kernel
theorem dX4_copy_91 : decode cX4_copy 91 = .ok (.ifCond .lt 12, 3) := by decide +kernel
theorem dX4_copy_94 : decode cX4_copy 94 = .ok (.aload_n 0, 1) := by decide +kernel
theorem dX4_copy_95 : decode cX4_copy 95 = .ok (.getfield 7, 3) := by decide +kernel
theorem dX4_copy_98 : decode cX4_copy 98 = .ok (.iload_n 2, 1) := by decide +kernel
theorem dX4_copy_99 : decode cX4_copy 99 = .ok (.iaload, 1) := by decide +kernel
theorem dX4_copy_100 : decode cX4_copy 100 = .ok (.ifCond .ge 10, 3) := by decide +kernel
theorem dX4_copy_103 : decode cX4_copy 103 = .ok (.aload_n 0, 1) := by decide +kernel
theorem dX4_copy_104 : decode cX4_copy 104 = .ok (.bipush (-4), 2) := by decide +kernel
theorem dX4_copy_106 : decode cX4_copy 106 = .ok (.invokevirtual 69, 3) := by decide +kernel
theorem dX4_copy_109 : decode cX4_copy 109 = .ok (.ireturn, 1) := by decide +kernel
theorem dX4_copy_110 : decode cX4_copy 110 = .ok (.iload 5, 2) := by decide +kernel
theorem dX4_copy_112 : decode cX4_copy 112 = .ok (.ifCond .lt 47, 3) := by decide +kernel
theorem dX4_copy_115 : decode cX4_copy 115 = .ok (.iload_n 3, 1) := by decide +kernel
theorem dX4_copy_116 : decode cX4_copy 116 = .ok (.ifCond .lt 43, 3) := by decide +kernel
theorem dX4_copy_119 : decode cX4_copy 119 = .ok (.iload 4, 2) := by decide +kernel
theorem dX4_copy_121 : decode cX4_copy 121 = .ok (.ifCond .lt 38, 3) := by decide +kernel
theorem dX4_copy_124 : decode cX4_copy 124 = .ok (.iload_n 3, 1) := by decide +kernel
theorem dX4_copy_125 : decode cX4_copy 125 = .ok (.i2l, 1) := by decide +kernel
theorem dX4_copy_126 : decode cX4_copy 126 = .ok (.iload 5, 2) := by decide +kernel
theorem dX4_copy_128 : decode cX4_copy 128 = .ok (.i2l, 1) := by decide +kernel
theorem dX4_copy_129 : decode cX4_copy 129 = .ok (.ladd, 1) := by decide +kernel
theorem dX4_copy_130 : decode cX4_copy 130 = .ok (.aload_n 0, 1) := by decide +kernel
theorem dX4_copy_131 : decode cX4_copy 131 = .ok (.getfield 13, 3) := by decide +kernel
theorem dX4_copy_134 : decode cX4_copy 134 = .ok (.iload_n 1, 1) := by decide +kernel
theorem dX4_copy_135 : decode cX4_copy 135 = .ok (.iaload, 1) := by decide +kernel
theorem dX4_copy_136 : decode cX4_copy 136 = .ok (.i2l, 1) := by decide +kernel
theorem dX4_copy_137 : decode cX4_copy 137 = .ok (.lcmp, 1) := by decide +kernel
theorem dX4_copy_138 : decode cX4_copy 138 = .ok (.ifCond .gt 21, 3) := by decide +kernel
theorem dX4_copy_141 : decode cX4_copy 141 = .ok (.iload 4, 2) := by decide +kernel
theorem dX4_copy_143 : decode cX4_copy 143 = .ok (.i2l, 1) := by decide +kernel
theorem dX4_copy_144 : decode cX4_copy 144 = .ok (.iload 5, 2) := by decide +kernel
theorem dX4_copy_146 : decode cX4_copy 146 = .ok (.i2l, 1) := by decide +kernel
theorem dX4_copy_147 : decode cX4_copy 147 = .ok (.ladd, 1) := by decide +kernel
theorem dX4_copy_148 : decode cX4_copy 148 = .ok (.aload_n 0, 1) := by decide +kernel
theorem dX4_copy_149 : decode cX4_copy 149 = .ok (.getfield 13, 3) := by decide +kernel
theorem dX4_copy_152 : decode cX4_copy 152 = .ok (.iload_n 2, 1) := by decide +kernel
theorem dX4_copy_153 : decode cX4_copy 153 = .ok (.iaload, 1) := by decide +kernel
theorem dX4_copy_154 : decode cX4_copy 154 = .ok (.i2l, 1) := by decide +kernel
theorem dX4_copy_155 : decode cX4_copy 155 = .ok (.lcmp, 1) := by decide +kernel
theorem dX4_copy_156 : decode cX4_copy 156 = .ok (.ifCond .le 10, 3) := by decide +kernel
theorem dX4_copy_159 : decode cX4_copy 159 = .ok (.aload_n 0, 1) := by decide +kernel
theorem dX4_copy_160 : decode cX4_copy 160 = .ok (.bipush (-2), 2) := by decide +kernel
theorem dX4_copy_162 : decode cX4_copy 162 = .ok (.invokevirtual 69, 3) := by decide +kernel
theorem dX4_copy_165 : decode cX4_copy 165 = .ok (.ireturn, 1) := by decide +kernel
theorem dX4_copy_166 : decode cX4_copy 166 = .ok (.iload_n 1, 1) := by decide +kernel
theorem dX4_copy_167 : decode cX4_copy 167 = .ok (.iload_n 2, 1) := by decide +kernel
theorem dX4_copy_168 : decode cX4_copy 168 = .ok (.if_icmp .ne 58, 3) := by decide +kernel
theorem dX4_copy_171 : decode cX4_copy 171 = .ok (.iload_n 3, 1) := by decide +kernel
theorem dX4_copy_172 : decode cX4_copy 172 = .ok (.iload 4, 2) := by decide +kernel
theorem dX4_copy_174 : decode cX4_copy 174 = .ok (.if_icmp .ge 52, 3) := by decide +kernel
theorem dX4_copy_177 : decode cX4_copy 177 = .ok (.iload 5, 2) := by decide +kernel
theorem dX4_copy_179 : decode cX4_copy 179 = .ok (.iconst 1, 1) := by decide +kernel
theorem dX4_copy_180 : decode cX4_copy 180 = .ok (.isub, 1) := by decide +kernel
theorem dX4_copy_181 : decode cX4_copy 181 = .ok (.istore 6, 2) := by decide +kernel
theorem dX4_copy_183 : decode cX4_copy 183 = .ok (.iload 6, 2) := by decide +kernel
theorem dX4_copy_185 : decode cX4_copy 185 = .ok (.ifCond .lt 38, 3) := by decide +kernel
theorem dX4_copy_188 : decode cX4_copy 188 = .ok (.aload_n 0, 1) := by decide +kernel
theorem dX4_copy_189 : decode cX4_copy 189 = .ok (.getfield 16, 3) := by decide +kernel
theorem dX4_copy_192 : decode cX4_copy 192 = .ok (.bipush 40, 2) := by decide +kernel
theorem dX4_copy_194 : decode cX4_copy 194 = .ok (.iload_n 2, 1) := by decide +kernel
theorem dX4_copy_195 : decode cX4_copy 195 = .ok (.imul, 1) := by decide +kernel
theorem dX4_copy_196 : decode cX4_copy 196 = .ok (.iload 4, 2) := by decide +kernel
theorem dX4_copy_198 : decode cX4_copy 198 = .ok (.iadd, 1) := by decide +kernel
theorem dX4_copy_199 : decode cX4_copy 199 = .ok (.iload 6, 2) := by decide +kernel
theorem dX4_copy_201 : decode cX4_copy 201 = .ok (.iadd, 1) := by decide +kernel
theorem dX4_copy_202 : decode cX4_copy 202 = .ok (.aload_n 0, 1) := by decide +kernel
theorem dX4_copy_203 : decode cX4_copy 203 = .ok (.getfield 16, 3) := by decide +kernel
theorem dX4_copy_206 : decode cX4_copy 206 = .ok (.bipush 40, 2) := by decide +kernel
theorem dX4_copy_208 : decode cX4_copy 208 = .ok (.iload_n 1, 1) := by decide +kernel
theorem dX4_copy_209 : decode cX4_copy 209 = .ok (.imul, 1) := by decide +kernel
theorem dX4_copy_210 : decode cX4_copy 210 = .ok (.iload_n 3, 1) := by decide +kernel
theorem dX4_copy_211 : decode cX4_copy 211 = .ok (.iadd, 1) := by decide +kernel
theorem dX4_copy_212 : decode cX4_copy 212 = .ok (.iload 6, 2) := by decide +kernel
theorem dX4_copy_214 : decode cX4_copy 214 = .ok (.iadd, 1) := by decide +kernel
theorem dX4_copy_215 : decode cX4_copy 215 = .ok (.laload, 1) := by decide +kernel
theorem dX4_copy_216 : decode cX4_copy 216 = .ok (.lastore, 1) := by decide +kernel
theorem dX4_copy_217 : decode cX4_copy 217 = .ok (.iinc 6 (-1), 3) := by decide +kernel
theorem dX4_copy_220 : decode cX4_copy 220 = .ok (.goto (-37), 3) := by decide +kernel
theorem dX4_copy_223 : decode cX4_copy 223 = .ok (.goto 48, 3) := by decide +kernel
theorem dX4_copy_226 : decode cX4_copy 226 = .ok (.iconst 0, 1) := by decide +kernel
theorem dX4_copy_227 : decode cX4_copy 227 = .ok (.istore 6, 2) := by decide +kernel
theorem dX4_copy_229 : decode cX4_copy 229 = .ok (.iload 6, 2) := by decide +kernel
theorem dX4_copy_231 : decode cX4_copy 231 = .ok (.iload 5, 2) := by decide +kernel
theorem dX4_copy_233 : decode cX4_copy 233 = .ok (.if_icmp .ge 38, 3) := by decide +kernel
theorem dX4_copy_236 : decode cX4_copy 236 = .ok (.aload_n 0, 1) := by decide +kernel
theorem dX4_copy_237 : decode cX4_copy 237 = .ok (.getfield 16, 3) := by decide +kernel
theorem dX4_copy_240 : decode cX4_copy 240 = .ok (.bipush 40, 2) := by decide +kernel
theorem dX4_copy_242 : decode cX4_copy 242 = .ok (.iload_n 2, 1) := by decide +kernel
theorem dX4_copy_243 : decode cX4_copy 243 = .ok (.imul, 1) := by decide +kernel
theorem dX4_copy_244 : decode cX4_copy 244 = .ok (.iload 4, 2) := by decide +kernel
theorem dX4_copy_246 : decode cX4_copy 246 = .ok (.iadd, 1) := by decide +kernel
theorem dX4_copy_247 : decode cX4_copy 247 = .ok (.iload 6, 2) := by decide +kernel
theorem dX4_copy_249 : decode cX4_copy 249 = .ok (.iadd, 1) := by decide +kernel
theorem dX4_copy_250 : decode cX4_copy 250 = .ok (.aload_n 0, 1) := by decide +kernel
theorem dX4_copy_251 : decode cX4_copy 251 = .ok (.getfield 16, 3) := by decide +kernel
theorem dX4_copy_254 : decode cX4_copy 254 = .ok (.bipush 40, 2) := by decide +kernel
theorem dX4_copy_256 : decode cX4_copy 256 = .ok (.iload_n 1, 1) := by decide +kernel
theorem dX4_copy_257 : decode cX4_copy 257 = .ok (.imul, 1) := by decide +kernel
theorem dX4_copy_258 : decode cX4_copy 258 = .ok (.iload_n 3, 1) := by decide +kernel
theorem dX4_copy_259 : decode cX4_copy 259 = .ok (.iadd, 1) := by decide +kernel
theorem dX4_copy_260 : decode cX4_copy 260 = .ok (.iload 6, 2) := by decide +kernel
theorem dX4_copy_262 : decode cX4_copy 262 = .ok (.iadd, 1) := by decide +kernel
theorem dX4_copy_263 : decode cX4_copy 263 = .ok (.laload, 1) := by decide +kernel
theorem dX4_copy_264 : decode cX4_copy 264 = .ok (.lastore, 1) := by decide +kernel
theorem dX4_copy_265 : decode cX4_copy 265 = .ok (.iinc 6 1, 3) := by decide +kernel
theorem dX4_copy_268 : decode cX4_copy 268 = .ok (.goto (-39), 3) := by decide +kernel
theorem dX4_copy_271 : decode cX4_copy 271 = .ok (.iload 5, 2) := by decide +kernel
theorem dX4_copy_273 : decode cX4_copy 273 = .ok (.ireturn, 1) := by decide +kernel
theorem dX4_element_0 : decode cX4_element 0 = .ok (.iload_n 1, 1) := by decide +kernel
theorem dX4_element_1 : decode cX4_element 1 = .ok (.iconst 0, 1) := by decide +kernel
theorem dX4_element_2 : decode cX4_element 2 = .ok (.bipush 7, 2) := by decide +kernel
theorem dX4_element_4 : decode cX4_element 4 = .ok (.invokestatic 62, 3) := by decide +kernel
theorem dX4_element_7 : decode cX4_element 7 = .ok (.ifCond .eq 41, 3) := by decide +kernel
theorem dX4_element_10 : decode cX4_element 10 = .ok (.aload_n 0, 1) := by decide +kernel
theorem dX4_element_11 : decode cX4_element 11 = .ok (.iload_n 1, 1) := by decide +kernel
theorem dX4_element_12 : decode cX4_element 12 = .ok (.invokevirtual 76, 3) := by decide +kernel
theorem dX4_element_15 : decode cX4_element 15 = .ok (.ifCond .eq 33, 3) := by decide +kernel
theorem dX4_element_18 : decode cX4_element 18 = .ok (.iload_n 2, 1) := by decide +kernel
theorem dX4_element_19 : decode cX4_element 19 = .ok (.iconst 0, 1) := by decide +kernel
theorem dX4_element_20 : decode cX4_element 20 = .ok (.aload_n 0, 1) := by decide +kernel
theorem dX4_element_21 : decode cX4_element 21 = .ok (.getfield 13, 3) := by decide +kernel
theorem dX4_element_24 : decode cX4_element 24 = .ok (.iload_n 1, 1) := by decide +kernel
theorem dX4_element_25 : decode cX4_element 25 = .ok (.iaload, 1) := by decide +kernel
theorem dX4_element_26 : decode cX4_element 26 = .ok (.iconst 1, 1) := by decide +kernel
theorem dX4_element_27 : decode cX4_element 27 = .ok (.isub, 1) := by decide +kernel
theorem dX4_element_28 : decode cX4_element 28 = .ok (.invokestatic 62, 3) := by decide +kernel
theorem dX4_element_31 : decode cX4_element 31 = .ok (.ifCond .eq 17, 3) := by decide +kernel
theorem dX4_element_34 : decode cX4_element 34 = .ok (.aload_n 0, 1) := by decide +kernel
theorem dX4_element_35 : decode cX4_element 35 = .ok (.getfield 16, 3) := by decide +kernel
theorem dX4_element_38 : decode cX4_element 38 = .ok (.bipush 40, 2) := by decide +kernel
theorem dX4_element_40 : decode cX4_element 40 = .ok (.iload_n 1, 1) := by decide +kernel
theorem dX4_element_41 : decode cX4_element 41 = .ok (.imul, 1) := by decide +kernel
theorem dX4_element_42 : decode cX4_element 42 = .ok (.iload_n 2, 1) := by decide +kernel
theorem dX4_element_43 : decode cX4_element 43 = .ok (.iadd, 1) := by decide +kernel
theorem dX4_element_44 : decode cX4_element 44 = .ok (.laload, 1) := by decide +kernel
theorem dX4_element_45 : decode cX4_element 45 = .ok (.goto 4, 3) := by decide +kernel
theorem dX4_element_48 : decode cX4_element 48 = .ok (.lconst 0, 1) := by decide +kernel
theorem dX4_element_49 : decode cX4_element 49 = .ok (.lreturn, 1) := by decide +kernel
theorem dX4_holds_0 : decode cX4_holds 0 = .ok (.iload_n 1, 1) := by decide +kernel
theorem dX4_holds_1 : decode cX4_holds 1 = .ok (.iconst 0, 1) := by decide +kernel
theorem dX4_holds_2 : decode cX4_holds 2 = .ok (.bipush 7, 2) := by decide +kernel
theorem dX4_holds_4 : decode cX4_holds 4 = .ok (.invokestatic 62, 3) := by decide +kernel
theorem dX4_holds_7 : decode cX4_holds 7 = .ok (.ifCond .eq 12, 3) := by decide +kernel
theorem dX4_holds_10 : decode cX4_holds 10 = .ok (.aload_n 0, 1) := by decide +kernel
theorem dX4_holds_11 : decode cX4_holds 11 = .ok (.getfield 7, 3) := by decide +kernel
theorem dX4_holds_14 : decode cX4_holds 14 = .ok (.iload_n 1, 1) := by decide +kernel
theorem dX4_holds_15 : decode cX4_holds 15 = .ok (.iaload, 1) := by decide +kernel
theorem dX4_holds_16 : decode cX4_holds 16 = .ok (.goto 4, 3) := by decide +kernel
theorem dX4_holds_19 : decode cX4_holds 19 = .ok (.iconst (-1), 1) := by decide +kernel
theorem dX4_holds_20 : decode cX4_holds 20 = .ok (.ireturn, 1) := by decide +kernel
theorem dX4_show_0 : decode cX4_show 0 = .ok (.iload_n 1, 1) := by decide +kernel
theorem dX4_show_1 : decode cX4_show 1 = .ok (.iconst 0, 1) := by decide +kernel
theorem dX4_show_2 : decode cX4_show 2 = .ok (.bipush 7, 2) := by decide +kernel
theorem dX4_show_4 : decode cX4_show 4 = .ok (.invokestatic 62, 3) := by decide +kernel
theorem dX4_show_7 : decode cX4_show 7 = .ok (.ifCond .eq 16, 3) := by decide +kernel
theorem dX4_show_10 : decode cX4_show 10 = .ok (.iload_n 2, 1) := by decide +kernel
theorem dX4_show_11 : decode cX4_show 11 = .ok (.iconst (-1), 1) := by decide +kernel
theorem dX4_show_12 : decode cX4_show 12 = .ok (.if_icmp .eq 18, 3) := by decide +kernel
theorem dX4_show_15 : decode cX4_show 15 = .ok (.aload_n 0, 1) := by decide +kernel
theorem dX4_show_16 : decode cX4_show 16 = .ok (.iload_n 2, 1) := by decide +kernel
theorem dX4_show_17 : decode cX4_show 17 = .ok (.invokevirtual 80, 3) := by decide +kernel
theorem dX4_show_20 : decode cX4_show 20 = .ok (.ifCond .ne 10, 3) := by decide +kernel
theorem dX4_show_23 : decode cX4_show 23 = .ok (.aload_n 0, 1) := by decide +kernel
theorem dX4_show_24 : decode cX4_show 24 = .ok (.bipush (-2), 2) := by decide +kernel
theorem dX4_show_26 : decode cX4_show 26 = .ok (.invokevirtual 69, 3) := by decide +kernel
theorem dX4_show_29 : decode cX4_show 29 = .ok (.ireturn, 1) := by decide +kernel
theorem dX4_show_30 : decode cX4_show 30 = .ok (.aload_n 0, 1) := by decide +kernel
theorem dX4_show_31 : decode cX4_show 31 = .ok (.getfield 7, 3) := by decide +kernel
theorem dX4_show_34 : decode cX4_show 34 = .ok (.iload_n 1, 1) := by decide +kernel
theorem dX4_show_35 : decode cX4_show 35 = .ok (.iload_n 2, 1) := by decide +kernel
theorem dX4_show_36 : decode cX4_show 36 = .ok (.iconst (-1), 1) := by decide +kernel
theorem dX4_show_37 : decode cX4_show 37 = .ok (.if_icmp .ne 7, 3) := by decide +kernel
theorem dX4_show_40 : decode cX4_show 40 = .ok (.iconst (-1), 1) := by decide +kernel
theorem dX4_show_41 : decode cX4_show 41 = .ok (.goto 7, 3) := by decide +kernel
theorem dX4_show_44 : decode cX4_show 44 = .ok (.bipush 10, 2) := by decide +kernel
theorem dX4_show_46 : decode cX4_show 46 = .ok (.iload_n 2, 1) := by decide +kernel
theorem dX4_show_47 : decode cX4_show 47 = .ok (.iadd, 1) := by decide +kernel
theorem dX4_show_48 : decode cX4_show 48 = .ok (.iastore, 1) := by decide +kernel
theorem dX4_show_49 : decode cX4_show 49 = .ok (.iconst 1, 1) := by decide +kernel
theorem dX4_show_50 : decode cX4_show 50 = .ok (.ireturn, 1) := by decide +kernel
theorem dX4_isUnder_0 : decode cX4_isUnder 0 = .ok (.iload_n 1, 1) := by decide +kernel
theorem dX4_isUnder_1 : decode cX4_isUnder 1 = .ok (.ifCond .eq 28, 3) := by decide +kernel
theorem dX4_isUnder_4 : decode cX4_isUnder 4 = .ok (.iload_n 0, 1) := by decide +kernel
theorem dX4_isUnder_5 : decode cX4_isUnder 5 = .ok (.iload_n 1, 1) := by decide +kernel
theorem dX4_isUnder_6 : decode cX4_isUnder 6 = .ok (.if_icmp .eq 23, 3) := by decide +kernel
theorem dX4_isUnder_9 : decode cX4_isUnder 9 = .ok (.iload_n 0, 1) := by decide +kernel
theorem dX4_isUnder_10 : decode cX4_isUnder 10 = .ok (.iconst 3, 1) := by decide +kernel
theorem dX4_isUnder_11 : decode cX4_isUnder 11 = .ok (.if_icmp .ne 8, 3) := by decide +kernel
theorem dX4_isUnder_14 : decode cX4_isUnder 14 = .ok (.iload_n 1, 1) := by decide +kernel
theorem dX4_isUnder_15 : decode cX4_isUnder 15 = .ok (.iconst 1, 1) := by decide +kernel
theorem dX4_isUnder_16 : decode cX4_isUnder 16 = .ok (.if_icmp .eq 13, 3) := by decide +kernel
theorem dX4_isUnder_19 : decode cX4_isUnder 19 = .ok (.iload_n 0, 1) := by decide +kernel
theorem dX4_isUnder_20 : decode cX4_isUnder 20 = .ok (.iconst 5, 1) := by decide +kernel
theorem dX4_isUnder_21 : decode cX4_isUnder 21 = .ok (.if_icmp .ne 12, 3) := by decide +kernel
theorem dX4_isUnder_24 : decode cX4_isUnder 24 = .ok (.iload_n 1, 1) := by decide +kernel
theorem dX4_isUnder_25 : decode cX4_isUnder 25 = .ok (.iconst 2, 1) := by decide +kernel
theorem dX4_isUnder_26 : decode cX4_isUnder 26 = .ok (.if_icmp .ne 7, 3) := by decide +kernel
theorem dX4_isUnder_29 : decode cX4_isUnder 29 = .ok (.iconst 1, 1) := by decide +kernel
theorem dX4_isUnder_30 : decode cX4_isUnder 30 = .ok (.goto 4, 3) := by decide +kernel
theorem dX4_isUnder_33 : decode cX4_isUnder 33 = .ok (.iconst 0, 1) := by decide +kernel
theorem dX4_isUnder_34 : decode cX4_isUnder 34 = .ok (.ireturn, 1) := by decide +kernel
theorem dX4_says_0 : decode cX4_says 0 = .ok (.iload_n 1, 1) := by decide +kernel
theorem dX4_says_1 : decode cX4_says 1 = .ok (.iconst 0, 1) := by decide +kernel
theorem dX4_says_2 : decode cX4_says 2 = .ok (.bipush 7, 2) := by decide +kernel
theorem dX4_says_4 : decode cX4_says 4 = .ok (.invokestatic 62, 3) := by decide +kernel
theorem dX4_says_7 : decode cX4_says 7 = .ok (.ifCond .eq 12, 3) := by decide +kernel
theorem dX4_says_10 : decode cX4_says 10 = .ok (.iload_n 2, 1) := by decide +kernel
theorem dX4_says_11 : decode cX4_says 11 = .ok (.iconst 0, 1) := by decide +kernel
theorem dX4_says_12 : decode cX4_says 12 = .ok (.iconst 5, 1) := by decide +kernel
theorem dX4_says_13 : decode cX4_says 13 = .ok (.invokestatic 62, 3) := by decide +kernel
theorem dX4_says_16 : decode cX4_says 16 = .ok (.ifCond .ne 10, 3) := by decide +kernel
theorem dX4_says_19 : decode cX4_says 19 = .ok (.aload_n 0, 1) := by decide +kernel
theorem dX4_says_20 : decode cX4_says 20 = .ok (.bipush (-2), 2) := by decide +kernel
theorem dX4_says_22 : decode cX4_says 22 = .ok (.invokevirtual 69, 3) := by decide +kernel
theorem dX4_says_25 : decode cX4_says 25 = .ok (.ireturn, 1) := by decide +kernel
theorem dX4_says_26 : decode cX4_says 26 = .ok (.aload_n 0, 1) := by decide +kernel
theorem dX4_says_27 : decode cX4_says 27 = .ok (.getfield 7, 3) := by decide +kernel
theorem dX4_says_30 : decode cX4_says 30 = .ok (.iload_n 1, 1) := by decide +kernel
theorem dX4_says_31 : decode cX4_says 31 = .ok (.iaload, 1) := by decide +kernel
theorem dX4_says_32 : decode cX4_says 32 = .ok (.bipush 10, 2) := by decide +kernel
theorem dX4_says_34 : decode cX4_says 34 = .ok (.isub, 1) := by decide +kernel
theorem dX4_says_35 : decode cX4_says 35 = .ok (.istore_n 3, 1) := by decide +kernel
theorem dX4_says_36 : decode cX4_says 36 = .ok (.aload_n 0, 1) := by decide +kernel
theorem dX4_says_37 : decode cX4_says 37 = .ok (.iload_n 1, 1) := by decide +kernel
theorem dX4_says_38 : decode cX4_says 38 = .ok (.invokevirtual 76, 3) := by decide +kernel
theorem dX4_says_41 : decode cX4_says 41 = .ok (.ifCond .ne 20, 3) := by decide +kernel
theorem dX4_says_44 : decode cX4_says 44 = .ok (.iload_n 3, 1) := by decide +kernel
theorem dX4_says_45 : decode cX4_says 45 = .ok (.ifCond .lt 23, 3) := by decide +kernel
theorem dX4_says_48 : decode cX4_says 48 = .ok (.aload_n 0, 1) := by decide +kernel
theorem dX4_says_49 : decode cX4_says 49 = .ok (.getfield 23, 3) := by decide +kernel
theorem dX4_says_52 : decode cX4_says 52 = .ok (.iload_n 3, 1) := by decide +kernel
theorem dX4_says_53 : decode cX4_says 53 = .ok (.iaload, 1) := by decide +kernel
theorem dX4_says_54 : decode cX4_says 54 = .ok (.iload_n 2, 1) := by decide +kernel
theorem dX4_says_55 : decode cX4_says 55 = .ok (.invokestatic 83, 3) := by decide +kernel
theorem dX4_says_58 : decode cX4_says 58 = .ok (.ifCond .ne 10, 3) := by decide +kernel
theorem dX4_says_61 : decode cX4_says 61 = .ok (.aload_n 0, 1) := by decide +kernel
theorem dX4_says_62 : decode cX4_says 62 = .ok (.bipush (-3), 2) := by decide +kernel
theorem dX4_says_64 : decode cX4_says 64 = .ok (.invokevirtual 69, 3) := by decide +kernel
theorem dX4_says_67 : decode cX4_says 67 = .ok (.ireturn, 1) := by decide +kernel
theorem dX4_says_68 : decode cX4_says 68 = .ok (.iload_n 3, 1) := by decide +kernel
theorem dX4_says_69 : decode cX4_says 69 = .ok (.ifCond .ge 10, 3) := by decide +kernel
theorem dX4_says_72 : decode cX4_says 72 = .ok (.aload_n 0, 1) := by decide +kernel
theorem dX4_says_73 : decode cX4_says 73 = .ok (.bipush (-4), 2) := by decide +kernel
theorem dX4_says_75 : decode cX4_says 75 = .ok (.invokevirtual 69, 3) := by decide +kernel
theorem dX4_says_78 : decode cX4_says 78 = .ok (.ireturn, 1) := by decide +kernel
theorem dX4_says_79 : decode cX4_says 79 = .ok (.iload_n 2, 1) := by decide +kernel
theorem dX4_says_80 : decode cX4_says 80 = .ok (.tableswitch 118 0 5 #[40, 46, 83, 118, 118, 92], 40) := by decide +kernel
theorem dX4_says_120 : decode cX4_says 120 = .ok (.aload_n 0, 1) := by decide +kernel
theorem dX4_says_121 : decode cX4_says 121 = .ok (.iload_n 3, 1) := by decide +kernel
theorem dX4_says_122 : decode cX4_says 122 = .ok (.invokevirtual 87, 3) := by decide +kernel
theorem dX4_says_125 : decode cX4_says 125 = .ok (.ireturn, 1) := by decide +kernel
theorem dX4_says_126 : decode cX4_says 126 = .ok (.iconst 0, 1) := by decide +kernel
theorem dX4_says_127 : decode cX4_says 127 = .ok (.istore 4, 2) := by decide +kernel
theorem dX4_says_129 : decode cX4_says 129 = .ok (.iconst 0, 1) := by decide +kernel
theorem dX4_says_130 : decode cX4_says 130 = .ok (.istore 5, 2) := by decide +kernel
theorem dX4_says_132 : decode cX4_says 132 = .ok (.iload 5, 2) := by decide +kernel
theorem dX4_says_134 : decode cX4_says 134 = .ok (.aload_n 0, 1) := by decide +kernel
theorem dX4_says_135 : decode cX4_says 135 = .ok (.getfield 66, 3) := by decide +kernel
theorem dX4_says_138 : decode cX4_says 138 = .ok (.if_icmp .ge 22, 3) := by decide +kernel
theorem dX4_says_141 : decode cX4_says 141 = .ok (.aload_n 0, 1) := by decide +kernel
theorem dX4_says_142 : decode cX4_says 142 = .ok (.iload_n 3, 1) := by decide +kernel
theorem dX4_says_143 : decode cX4_says 143 = .ok (.iload 5, 2) := by decide +kernel
theorem dX4_says_145 : decode cX4_says 145 = .ok (.invokevirtual 90, 3) := by decide +kernel
theorem dX4_says_148 : decode cX4_says 148 = .ok (.ifCond .eq 6, 3) := by decide +kernel
theorem dX4_says_151 : decode cX4_says 151 = .ok (.iinc 4 1, 3) := by decide +kernel
theorem dX4_says_154 : decode cX4_says 154 = .ok (.iinc 5 1, 3) := by decide +kernel
theorem dX4_says_157 : decode cX4_says 157 = .ok (.goto (-25), 3) := by decide +kernel
theorem dX4_says_160 : decode cX4_says 160 = .ok (.iload 4, 2) := by decide +kernel
theorem dX4_says_162 : decode cX4_says 162 = .ok (.ireturn, 1) := by decide +kernel
theorem dX4_says_163 : decode cX4_says 163 = .ok (.aload_n 0, 1) := by decide +kernel
theorem dX4_says_164 : decode cX4_says 164 = .ok (.iload_n 3, 1) := by decide +kernel
theorem dX4_says_165 : decode cX4_says 165 = .ok (.invokevirtual 93, 3) := by decide +kernel
theorem dX4_says_168 : decode cX4_says 168 = .ok (.invokestatic 96, 3) := by decide +kernel
theorem dX4_says_171 : decode cX4_says 171 = .ok (.ireturn, 1) := by decide +kernel
theorem dX4_says_172 : decode cX4_says 172 = .ok (.aload_n 0, 1) := by decide +kernel
theorem dX4_says_173 : decode cX4_says 173 = .ok (.invokevirtual 101, 3) := by decide +kernel
theorem dX4_says_176 : decode cX4_says 176 = .ok (.iconst (-1), 1) := by decide +kernel
theorem dX4_says_177 : decode cX4_says 177 = .ok (.if_icmp .eq 19, 3) := by decide +kernel
theorem dX4_says_180 : decode cX4_says 180 = .ok (.aload_n 0, 1) := by decide +kernel
theorem dX4_says_181 : decode cX4_says 181 = .ok (.iload_n 3, 1) := by decide +kernel
theorem dX4_says_182 : decode cX4_says 182 = .ok (.aload_n 0, 1) := by decide +kernel
theorem dX4_says_183 : decode cX4_says 183 = .ok (.invokevirtual 101, 3) := by decide +kernel
theorem dX4_says_186 : decode cX4_says 186 = .ok (.invokevirtual 105, 3) := by decide +kernel
theorem dX4_says_189 : decode cX4_says 189 = .ok (.ifCond .eq 7, 3) := by decide +kernel
theorem dX4_says_192 : decode cX4_says 192 = .ok (.iconst 1, 1) := by decide +kernel
theorem dX4_says_193 : decode cX4_says 193 = .ok (.goto 4, 3) := by decide +kernel
theorem dX4_says_196 : decode cX4_says 196 = .ok (.iconst 0, 1) := by decide +kernel
theorem dX4_says_197 : decode cX4_says 197 = .ok (.ireturn, 1) := by decide +kernel
theorem dX4_says_198 : decode cX4_says 198 = .ok (.aload_n 0, 1) := by decide +kernel
theorem dX4_says_199 : decode cX4_says 199 = .ok (.iload_n 3, 1) := by decide +kernel
theorem dX4_says_200 : decode cX4_says 200 = .ok (.invokevirtual 108, 3) := by decide +kernel
theorem dX4_says_203 : decode cX4_says 203 = .ok (.ireturn, 1) := by decide +kernel
theorem dX4_freshTerm_0 : decode cX4_freshTerm 0 = .ok (.aload_n 0, 1) := by decide +kernel
theorem dX4_freshTerm_1 : decode cX4_freshTerm 1 = .ok (.iload_n 1, 1) := by decide +kernel
theorem dX4_freshTerm_2 : decode cX4_freshTerm 2 = .ok (.putfield 66, 3) := by decide +kernel
theorem dX4_freshTerm_5 : decode cX4_freshTerm 5 = .ok (.aload_n 0, 1) := by decide +kernel
theorem dX4_freshTerm_6 : decode cX4_freshTerm 6 = .ok (.iconst 1, 1) := by decide +kernel
theorem dX4_freshTerm_7 : decode cX4_freshTerm 7 = .ok (.iload_n 1, 1) := by decide +kernel
theorem dX4_freshTerm_8 : decode cX4_freshTerm 8 = .ok (.ishl, 1) := by decide +kernel
theorem dX4_freshTerm_9 : decode cX4_freshTerm 9 = .ok (.iconst 1, 1) := by decide +kernel
theorem dX4_freshTerm_10 : decode cX4_freshTerm 10 = .ok (.isub, 1) := by decide +kernel
theorem dX4_freshTerm_11 : decode cX4_freshTerm 11 = .ok (.putfield 111, 3) := by decide +kernel
theorem dX4_freshTerm_14 : decode cX4_freshTerm 14 = .ok (.iconst 0, 1) := by decide +kernel
theorem dX4_freshTerm_15 : decode cX4_freshTerm 15 = .ok (.istore_n 2, 1) := by decide +kernel
theorem dX4_freshTerm_16 : decode cX4_freshTerm 16 = .ok (.iload_n 2, 1) := by decide +kernel
theorem dX4_freshTerm_17 : decode cX4_freshTerm 17 = .ok (.bipush 9, 2) := by decide +kernel
theorem dX4_freshTerm_19 : decode cX4_freshTerm 19 = .ok (.if_icmp .ge 16, 3) := by decide +kernel
theorem dX4_freshTerm_22 : decode cX4_freshTerm 22 = .ok (.aload_n 0, 1) := by decide +kernel
theorem dX4_freshTerm_23 : decode cX4_freshTerm 23 = .ok (.getfield 20, 3) := by decide +kernel
theorem dX4_freshTerm_26 : decode cX4_freshTerm 26 = .ok (.iload_n 2, 1) := by decide +kernel
theorem dX4_freshTerm_27 : decode cX4_freshTerm 27 = .ok (.iconst 1, 1) := by decide +kernel
theorem dX4_freshTerm_28 : decode cX4_freshTerm 28 = .ok (.iastore, 1) := by decide +kernel
theorem dX4_freshTerm_29 : decode cX4_freshTerm 29 = .ok (.iinc 2 1, 3) := by decide +kernel
theorem dX4_freshTerm_32 : decode cX4_freshTerm 32 = .ok (.goto (-16), 3) := by decide +kernel
theorem dX4_freshTerm_35 : decode cX4_freshTerm 35 = .ok (.return_, 1) := by decide +kernel
theorem dX4_term_0 : decode cX4_term 0 = .ok (.iload_n 1, 1) := by decide +kernel
theorem dX4_term_1 : decode cX4_term 1 = .ok (.iconst 1, 1) := by decide +kernel
theorem dX4_term_2 : decode cX4_term 2 = .ok (.bipush 9, 2) := by decide +kernel
theorem dX4_term_4 : decode cX4_term 4 = .ok (.invokestatic 62, 3) := by decide +kernel
theorem dX4_term_7 : decode cX4_term 7 = .ok (.ifCond .ne 10, 3) := by decide +kernel
theorem dX4_term_10 : decode cX4_term 10 = .ok (.aload_n 0, 1) := by decide +kernel
theorem dX4_term_11 : decode cX4_term 11 = .ok (.bipush (-2), 2) := by decide +kernel
theorem dX4_term_13 : decode cX4_term 13 = .ok (.invokevirtual 69, 3) := by decide +kernel
theorem dX4_term_16 : decode cX4_term 16 = .ok (.ireturn, 1) := by decide +kernel
theorem dX4_term_17 : decode cX4_term 17 = .ok (.aload_n 0, 1) := by decide +kernel
theorem dX4_term_18 : decode cX4_term 18 = .ok (.getfield 66, 3) := by decide +kernel
theorem dX4_term_21 : decode cX4_term 21 = .ok (.istore_n 2, 1) := by decide +kernel
theorem dX4_term_22 : decode cX4_term 22 = .ok (.aload_n 0, 1) := by decide +kernel
theorem dX4_term_23 : decode cX4_term 23 = .ok (.iload_n 1, 1) := by decide +kernel
theorem dX4_term_24 : decode cX4_term 24 = .ok (.invokevirtual 44, 3) := by decide +kernel
theorem dX4_term_27 : decode cX4_term 27 = .ok (.iload_n 2, 1) := by decide +kernel
theorem dX4_term_28 : decode cX4_term 28 = .ok (.ireturn, 1) := by decide +kernel
theorem dX4_newOne_0 : decode cX4_newOne 0 = .ok (.aload_n 0, 1) := by decide +kernel
theorem dX4_newOne_1 : decode cX4_newOne 1 = .ok (.getfield 23, 3) := by decide +kernel
theorem dX4_newOne_4 : decode cX4_newOne 4 = .ok (.aload_n 0, 1) := by decide +kernel
theorem dX4_newOne_5 : decode cX4_newOne 5 = .ok (.getfield 59, 3) := by decide +kernel
theorem dX4_newOne_8 : decode cX4_newOne 8 = .ok (.iload_n 1, 1) := by decide +kernel
theorem dX4_newOne_9 : decode cX4_newOne 9 = .ok (.iastore, 1) := by decide +kernel
theorem dX4_newOne_10 : decode cX4_newOne 10 = .ok (.aload_n 0, 1) := by decide +kernel
theorem dX4_newOne_11 : decode cX4_newOne 11 = .ok (.getfield 26, 3) := by decide +kernel
theorem dX4_newOne_14 : decode cX4_newOne 14 = .ok (.aload_n 0, 1) := by decide +kernel
theorem dX4_newOne_15 : decode cX4_newOne 15 = .ok (.getfield 59, 3) := by decide +kernel
theorem dX4_newOne_18 : decode cX4_newOne 18 = .ok (.iload_n 2, 1) := by decide +kernel
theorem dX4_newOne_19 : decode cX4_newOne 19 = .ok (.iastore, 1) := by decide +kernel
theorem dX4_newOne_20 : decode cX4_newOne 20 = .ok (.aload_n 0, 1) := by decide +kernel
theorem dX4_newOne_21 : decode cX4_newOne 21 = .ok (.dup, 1) := by decide +kernel
theorem dX4_newOne_22 : decode cX4_newOne 22 = .ok (.getfield 59, 3) := by decide +kernel
theorem dX4_newOne_25 : decode cX4_newOne 25 = .ok (.dup_x1, 1) := by decide +kernel
theorem dX4_newOne_26 : decode cX4_newOne 26 = .ok (.iconst 1, 1) := by decide +kernel
theorem dX4_newOne_27 : decode cX4_newOne 27 = .ok (.iadd, 1) := by decide +kernel
theorem dX4_newOne_28 : decode cX4_newOne 28 = .ok (.putfield 59, 3) := by decide +kernel
theorem dX4_newOne_31 : decode cX4_newOne 31 = .ok (.ireturn, 1) := by decide +kernel
theorem dX4_person_0 : decode cX4_person 0 = .ok (.iload_n 1, 1) := by decide +kernel
theorem dX4_person_1 : decode cX4_person 1 = .ok (.iconst 0, 1) := by decide +kernel
theorem dX4_person_2 : decode cX4_person 2 = .ok (.iconst 5, 1) := by decide +kernel
theorem dX4_person_3 : decode cX4_person 3 = .ok (.invokestatic 62, 3) := by decide +kernel
theorem dX4_person_6 : decode cX4_person 6 = .ok (.ifCond .eq 13, 3) := by decide +kernel
theorem dX4_person_9 : decode cX4_person 9 = .ok (.iload_n 2, 1) := by decide +kernel
theorem dX4_person_10 : decode cX4_person 10 = .ok (.iconst 0, 1) := by decide +kernel
theorem dX4_person_11 : decode cX4_person 11 = .ok (.bipush 9, 2) := by decide +kernel
theorem dX4_person_13 : decode cX4_person 13 = .ok (.invokestatic 62, 3) := by decide +kernel
theorem dX4_person_16 : decode cX4_person 16 = .ok (.ifCond .ne 10, 3) := by decide +kernel
theorem dX4_person_19 : decode cX4_person 19 = .ok (.aload_n 0, 1) := by decide +kernel
theorem dX4_person_20 : decode cX4_person 20 = .ok (.bipush (-2), 2) := by decide +kernel
theorem dX4_person_22 : decode cX4_person 22 = .ok (.invokevirtual 69, 3) := by decide +kernel
theorem dX4_person_25 : decode cX4_person 25 = .ok (.ireturn, 1) := by decide +kernel
theorem dX4_person_26 : decode cX4_person 26 = .ok (.aload_n 0, 1) := by decide +kernel
theorem dX4_person_27 : decode cX4_person 27 = .ok (.getfield 59, 3) := by decide +kernel
theorem dX4_person_30 : decode cX4_person 30 = .ok (.bipush 6, 2) := by decide +kernel
theorem dX4_person_32 : decode cX4_person 32 = .ok (.if_icmp .ne 12, 3) := by decide +kernel
theorem dX4_person_35 : decode cX4_person 35 = .ok (.aload_n 0, 1) := by decide +kernel
theorem dX4_person_36 : decode cX4_person 36 = .ok (.bipush (-6), 2) := by decide +kernel
theorem dX4_person_38 : decode cX4_person 38 = .ok (.invokevirtual 69, 3) := by decide +kernel
theorem dX4_person_41 : decode cX4_person 41 = .ok (.goto 9, 3) := by decide +kernel
theorem dX4_person_44 : decode cX4_person 44 = .ok (.aload_n 0, 1) := by decide +kernel
theorem dX4_person_45 : decode cX4_person 45 = .ok (.iload_n 1, 1) := by decide +kernel
theorem dX4_person_46 : decode cX4_person 46 = .ok (.iload_n 2, 1) := by decide +kernel
theorem dX4_person_47 : decode cX4_person 47 = .ok (.invokevirtual 114, 3) := by decide +kernel
theorem dX4_person_50 : decode cX4_person 50 = .ok (.ireturn, 1) := by decide +kernel
theorem dX4_allow_0 : decode cX4_allow 0 = .ok (.aload_n 0, 1) := by decide +kernel
theorem dX4_allow_1 : decode cX4_allow 1 = .ok (.iload_n 1, 1) := by decide +kernel
theorem dX4_allow_2 : decode cX4_allow 2 = .ok (.invokevirtual 118, 3) := by decide +kernel
theorem dX4_allow_5 : decode cX4_allow 5 = .ok (.ifCond .ne 10, 3) := by decide +kernel
theorem dX4_allow_8 : decode cX4_allow 8 = .ok (.aload_n 0, 1) := by decide +kernel
theorem dX4_allow_9 : decode cX4_allow 9 = .ok (.bipush (-2), 2) := by decide +kernel
theorem dX4_allow_11 : decode cX4_allow 11 = .ok (.invokevirtual 69, 3) := by decide +kernel
theorem dX4_allow_14 : decode cX4_allow 14 = .ok (.ireturn, 1) := by decide +kernel
theorem dX4_allow_15 : decode cX4_allow 15 = .ok (.aload_n 0, 1) := by decide +kernel
theorem dX4_allow_16 : decode cX4_allow 16 = .ok (.getfield 111, 3) := by decide +kernel
theorem dX4_allow_19 : decode cX4_allow 19 = .ok (.iload_n 1, 1) := by decide +kernel
theorem dX4_allow_20 : decode cX4_allow 20 = .ok (.invokestatic 121, 3) := by decide +kernel
theorem dX4_allow_23 : decode cX4_allow 23 = .ok (.iload_n 2, 1) := by decide +kernel
theorem dX4_allow_24 : decode cX4_allow 24 = .ok (.if_icmp .ne 5, 3) := by decide +kernel
theorem dX4_allow_27 : decode cX4_allow 27 = .ok (.iconst 0, 1) := by decide +kernel
theorem dX4_allow_28 : decode cX4_allow 28 = .ok (.ireturn, 1) := by decide +kernel
theorem dX4_allow_29 : decode cX4_allow 29 = .ok (.aload_n 0, 1) := by decide +kernel
theorem dX4_allow_30 : decode cX4_allow 30 = .ok (.dup, 1) := by decide +kernel
theorem dX4_allow_31 : decode cX4_allow 31 = .ok (.getfield 111, 3) := by decide +kernel
theorem dX4_allow_34 : decode cX4_allow 34 = .ok (.iconst 1, 1) := by decide +kernel
theorem dX4_allow_35 : decode cX4_allow 35 = .ok (.iload_n 1, 1) := by decide +kernel
theorem dX4_allow_36 : decode cX4_allow 36 = .ok (.ishl, 1) := by decide +kernel
theorem dX4_allow_37 : decode cX4_allow 37 = .ok (.ixor, 1) := by decide +kernel
theorem dX4_allow_38 : decode cX4_allow 38 = .ok (.putfield 111, 3) := by decide +kernel
theorem dX4_allow_41 : decode cX4_allow 41 = .ok (.iconst 1, 1) := by decide +kernel
theorem dX4_allow_42 : decode cX4_allow 42 = .ok (.ireturn, 1) := by decide +kernel
theorem dX4_weight_0 : decode cX4_weight 0 = .ok (.aload_n 0, 1) := by decide +kernel
theorem dX4_weight_1 : decode cX4_weight 1 = .ok (.iload_n 1, 1) := by decide +kernel
theorem dX4_weight_2 : decode cX4_weight 2 = .ok (.invokevirtual 118, 3) := by decide +kernel
theorem dX4_weight_5 : decode cX4_weight 5 = .ok (.ifCond .eq 13, 3) := by decide +kernel
theorem dX4_weight_8 : decode cX4_weight 8 = .ok (.iload_n 2, 1) := by decide +kernel
theorem dX4_weight_9 : decode cX4_weight 9 = .ok (.iconst 0, 1) := by decide +kernel
theorem dX4_weight_10 : decode cX4_weight 10 = .ok (.bipush 9, 2) := by decide +kernel
theorem dX4_weight_12 : decode cX4_weight 12 = .ok (.invokestatic 62, 3) := by decide +kernel
theorem dX4_weight_15 : decode cX4_weight 15 = .ok (.ifCond .ne 10, 3) := by decide +kernel
theorem dX4_weight_18 : decode cX4_weight 18 = .ok (.aload_n 0, 1) := by decide +kernel
theorem dX4_weight_19 : decode cX4_weight 19 = .ok (.bipush (-2), 2) := by decide +kernel
theorem dX4_weight_21 : decode cX4_weight 21 = .ok (.invokevirtual 69, 3) := by decide +kernel
theorem dX4_weight_24 : decode cX4_weight 24 = .ok (.ireturn, 1) := by decide +kernel
theorem dX4_weight_25 : decode cX4_weight 25 = .ok (.aload_n 0, 1) := by decide +kernel
theorem dX4_weight_26 : decode cX4_weight 26 = .ok (.getfield 20, 3) := by decide +kernel
theorem dX4_weight_29 : decode cX4_weight 29 = .ok (.iload_n 1, 1) := by decide +kernel
theorem dX4_weight_30 : decode cX4_weight 30 = .ok (.iaload, 1) := by decide +kernel
theorem dX4_weight_31 : decode cX4_weight 31 = .ok (.istore_n 3, 1) := by decide +kernel
theorem dX4_weight_32 : decode cX4_weight 32 = .ok (.aload_n 0, 1) := by decide +kernel
theorem dX4_weight_33 : decode cX4_weight 33 = .ok (.getfield 20, 3) := by decide +kernel
theorem dX4_weight_36 : decode cX4_weight 36 = .ok (.iload_n 1, 1) := by decide +kernel
theorem dX4_weight_37 : decode cX4_weight 37 = .ok (.iload_n 2, 1) := by decide +kernel
theorem dX4_weight_38 : decode cX4_weight 38 = .ok (.iastore, 1) := by decide +kernel
theorem dX4_weight_39 : decode cX4_weight 39 = .ok (.iload_n 3, 1) := by decide +kernel
theorem dX4_weight_40 : decode cX4_weight 40 = .ok (.ireturn, 1) := by decide +kernel
theorem dX4_say_0 : decode cX4_say 0 = .ok (.aload_n 0, 1) := by decide +kernel
theorem dX4_say_1 : decode cX4_say 1 = .ok (.getfield 48, 3) := by decide +kernel
theorem dX4_say_4 : decode cX4_say 4 = .ok (.bipush 9, 2) := by decide +kernel
theorem dX4_say_6 : decode cX4_say 6 = .ok (.if_icmp .ne 12, 3) := by decide +kernel
theorem dX4_say_9 : decode cX4_say 9 = .ok (.aload_n 0, 1) := by decide +kernel
theorem dX4_say_10 : decode cX4_say 10 = .ok (.bipush (-6), 2) := by decide +kernel
theorem dX4_say_12 : decode cX4_say 12 = .ok (.invokevirtual 69, 3) := by decide +kernel
theorem dX4_say_15 : decode cX4_say 15 = .ok (.goto 14, 3) := by decide +kernel
theorem dX4_say_18 : decode cX4_say 18 = .ok (.aload_n 0, 1) := by decide +kernel
theorem dX4_say_19 : decode cX4_say 19 = .ok (.dup, 1) := by decide +kernel
theorem dX4_say_20 : decode cX4_say 20 = .ok (.getfield 48, 3) := by decide +kernel
theorem dX4_say_23 : decode cX4_say 23 = .ok (.iconst 1, 1) := by decide +kernel
theorem dX4_say_24 : decode cX4_say 24 = .ok (.iadd, 1) := by decide +kernel
theorem dX4_say_25 : decode cX4_say 25 = .ok (.dup_x1, 1) := by decide +kernel
theorem dX4_say_26 : decode cX4_say 26 = .ok (.putfield 48, 3) := by decide +kernel
theorem dX4_say_29 : decode cX4_say 29 = .ok (.ireturn, 1) := by decide +kernel
theorem dX4_unsay_0 : decode cX4_unsay 0 = .ok (.iload_n 1, 1) := by decide +kernel
theorem dX4_unsay_1 : decode cX4_unsay 1 = .ok (.iconst 0, 1) := by decide +kernel
theorem dX4_unsay_2 : decode cX4_unsay 2 = .ok (.bipush 9, 2) := by decide +kernel
theorem dX4_unsay_4 : decode cX4_unsay 4 = .ok (.invokestatic 62, 3) := by decide +kernel
theorem dX4_unsay_7 : decode cX4_unsay 7 = .ok (.ifCond .ne 10, 3) := by decide +kernel
theorem dX4_unsay_10 : decode cX4_unsay 10 = .ok (.aload_n 0, 1) := by decide +kernel
theorem dX4_unsay_11 : decode cX4_unsay 11 = .ok (.bipush (-2), 2) := by decide +kernel
theorem dX4_unsay_13 : decode cX4_unsay 13 = .ok (.invokevirtual 69, 3) := by decide +kernel
theorem dX4_unsay_16 : decode cX4_unsay 16 = .ok (.ireturn, 1) := by decide +kernel
theorem dX4_unsay_17 : decode cX4_unsay 17 = .ok (.aload_n 0, 1) := by decide +kernel
theorem dX4_unsay_18 : decode cX4_unsay 18 = .ok (.getfield 48, 3) := by decide +kernel
theorem dX4_unsay_21 : decode cX4_unsay 21 = .ok (.istore_n 2, 1) := by decide +kernel
theorem dX4_unsay_22 : decode cX4_unsay 22 = .ok (.aload_n 0, 1) := by decide +kernel
theorem dX4_unsay_23 : decode cX4_unsay 23 = .ok (.iload_n 1, 1) := by decide +kernel
theorem dX4_unsay_24 : decode cX4_unsay 24 = .ok (.putfield 48, 3) := by decide +kernel
theorem dX4_unsay_27 : decode cX4_unsay 27 = .ok (.iload_n 2, 1) := by decide +kernel
theorem dX4_unsay_28 : decode cX4_unsay 28 = .ok (.ireturn, 1) := by decide +kernel
theorem dX4_hint_0 : decode cX4_hint 0 = .ok (.iload_n 1, 1) := by decide +kernel
theorem dX4_hint_1 : decode cX4_hint 1 = .ok (.iconst 0, 1) := by decide +kernel
theorem dX4_hint_2 : decode cX4_hint 2 = .ok (.iconst 1, 1) := by decide +kernel
theorem dX4_hint_3 : decode cX4_hint 3 = .ok (.aload_n 0, 1) := by decide +kernel
theorem dX4_hint_4 : decode cX4_hint 4 = .ok (.getfield 66, 3) := by decide +kernel
theorem dX4_hint_7 : decode cX4_hint 7 = .ok (.ishl, 1) := by decide +kernel
theorem dX4_hint_8 : decode cX4_hint 8 = .ok (.iconst 1, 1) := by decide +kernel
theorem dX4_hint_9 : decode cX4_hint 9 = .ok (.isub, 1) := by decide +kernel
theorem dX4_hint_10 : decode cX4_hint 10 = .ok (.invokestatic 62, 3) := by decide +kernel
theorem dX4_hint_13 : decode cX4_hint 13 = .ok (.ifCond .ne 10, 3) := by decide +kernel
theorem dX4_hint_16 : decode cX4_hint 16 = .ok (.aload_n 0, 1) := by decide +kernel
theorem dX4_hint_17 : decode cX4_hint 17 = .ok (.bipush (-2), 2) := by decide +kernel
theorem dX4_hint_19 : decode cX4_hint 19 = .ok (.invokevirtual 69, 3) := by decide +kernel
theorem dX4_hint_22 : decode cX4_hint 22 = .ok (.ireturn, 1) := by decide +kernel
theorem dX4_hint_23 : decode cX4_hint 23 = .ok (.aload_n 0, 1) := by decide +kernel
theorem dX4_hint_24 : decode cX4_hint 24 = .ok (.dup, 1) := by decide +kernel
theorem dX4_hint_25 : decode cX4_hint 25 = .ok (.getfield 111, 3) := by decide +kernel
theorem dX4_hint_28 : decode cX4_hint 28 = .ok (.iload_n 1, 1) := by decide +kernel
theorem dX4_hint_29 : decode cX4_hint 29 = .ok (.iand, 1) := by decide +kernel
theorem dX4_hint_30 : decode cX4_hint 30 = .ok (.putfield 111, 3) := by decide +kernel
theorem dX4_hint_33 : decode cX4_hint 33 = .ok (.aload_n 0, 1) := by decide +kernel
theorem dX4_hint_34 : decode cX4_hint 34 = .ok (.getfield 111, 3) := by decide +kernel
theorem dX4_hint_37 : decode cX4_hint 37 = .ok (.invokestatic 96, 3) := by decide +kernel
theorem dX4_hint_40 : decode cX4_hint 40 = .ok (.ireturn, 1) := by decide +kernel
theorem dX4_feed_0 : decode cX4_feed 0 = .ok (.iload_n 1, 1) := by decide +kernel
theorem dX4_feed_1 : decode cX4_feed 1 = .ok (.iconst 0, 1) := by decide +kernel
theorem dX4_feed_2 : decode cX4_feed 2 = .ok (.sipush 255, 3) := by decide +kernel
theorem dX4_feed_5 : decode cX4_feed 5 = .ok (.invokestatic 62, 3) := by decide +kernel
theorem dX4_feed_8 : decode cX4_feed 8 = .ok (.ifCond .ne 10, 3) := by decide +kernel
theorem dX4_feed_11 : decode cX4_feed 11 = .ok (.aload_n 0, 1) := by decide +kernel
theorem dX4_feed_12 : decode cX4_feed 12 = .ok (.bipush (-2), 2) := by decide +kernel
theorem dX4_feed_14 : decode cX4_feed 14 = .ok (.invokevirtual 69, 3) := by decide +kernel
theorem dX4_feed_17 : decode cX4_feed 17 = .ok (.ireturn, 1) := by decide +kernel
theorem dX4_feed_18 : decode cX4_feed 18 = .ok (.aload_n 0, 1) := by decide +kernel
theorem dX4_feed_19 : decode cX4_feed 19 = .ok (.getfield 124, 3) := by decide +kernel
theorem dX4_feed_22 : decode cX4_feed 22 = .ok (.sipush 250, 3) := by decide +kernel
theorem dX4_feed_25 : decode cX4_feed 25 = .ok (.if_icmp .ne 10, 3) := by decide +kernel
theorem dX4_feed_28 : decode cX4_feed 28 = .ok (.aload_n 0, 1) := by decide +kernel
theorem dX4_feed_29 : decode cX4_feed 29 = .ok (.bipush (-6), 2) := by decide +kernel
theorem dX4_feed_31 : decode cX4_feed 31 = .ok (.invokevirtual 69, 3) := by decide +kernel
theorem dX4_feed_34 : decode cX4_feed 34 = .ok (.ireturn, 1) := by decide +kernel
theorem dX4_feed_35 : decode cX4_feed 35 = .ok (.aload_n 0, 1) := by decide +kernel
theorem dX4_feed_36 : decode cX4_feed 36 = .ok (.getfield 29, 3) := by decide +kernel
theorem dX4_feed_39 : decode cX4_feed 39 = .ok (.aload_n 0, 1) := by decide +kernel
theorem dX4_feed_40 : decode cX4_feed 40 = .ok (.dup, 1) := by decide +kernel
theorem dX4_feed_41 : decode cX4_feed 41 = .ok (.getfield 124, 3) := by decide +kernel
theorem dX4_feed_44 : decode cX4_feed 44 = .ok (.dup_x1, 1) := by decide +kernel
theorem dX4_feed_45 : decode cX4_feed 45 = .ok (.iconst 1, 1) := by decide +kernel
theorem dX4_feed_46 : decode cX4_feed 46 = .ok (.iadd, 1) := by decide +kernel
theorem dX4_feed_47 : decode cX4_feed 47 = .ok (.putfield 124, 3) := by decide +kernel
theorem dX4_feed_50 : decode cX4_feed 50 = .ok (.iload_n 1, 1) := by decide +kernel
theorem dX4_feed_51 : decode cX4_feed 51 = .ok (.iastore, 1) := by decide +kernel
theorem dX4_feed_52 : decode cX4_feed 52 = .ok (.aload_n 0, 1) := by decide +kernel
theorem dX4_feed_53 : decode cX4_feed 53 = .ok (.getfield 124, 3) := by decide +kernel
theorem dX4_feed_56 : decode cX4_feed 56 = .ok (.ireturn, 1) := by decide +kernel
theorem dX4_wipe_0 : decode cX4_wipe 0 = .ok (.aload_n 0, 1) := by decide +kernel
theorem dX4_wipe_1 : decode cX4_wipe 1 = .ok (.getfield 124, 3) := by decide +kernel
theorem dX4_wipe_4 : decode cX4_wipe 4 = .ok (.istore_n 1, 1) := by decide +kernel
theorem dX4_wipe_5 : decode cX4_wipe 5 = .ok (.aload_n 0, 1) := by decide +kernel
theorem dX4_wipe_6 : decode cX4_wipe 6 = .ok (.iconst 0, 1) := by decide +kernel
theorem dX4_wipe_7 : decode cX4_wipe 7 = .ok (.putfield 124, 3) := by decide +kernel
theorem dX4_wipe_10 : decode cX4_wipe 10 = .ok (.iload_n 1, 1) := by decide +kernel
theorem dX4_wipe_11 : decode cX4_wipe 11 = .ok (.ireturn, 1) := by decide +kernel
theorem dX4_isLetter_0 : decode cX4_isLetter 0 = .ok (.iload_n 0, 1) := by decide +kernel
theorem dX4_isLetter_1 : decode cX4_isLetter 1 = .ok (.bipush 97, 2) := by decide +kernel
theorem dX4_isLetter_3 : decode cX4_isLetter 3 = .ok (.if_icmp .lt 13, 3) := by decide +kernel
theorem dX4_isLetter_6 : decode cX4_isLetter 6 = .ok (.iload_n 0, 1) := by decide +kernel
theorem dX4_isLetter_7 : decode cX4_isLetter 7 = .ok (.bipush 122, 2) := by decide +kernel
theorem dX4_isLetter_9 : decode cX4_isLetter 9 = .ok (.if_icmp .gt 7, 3) := by decide +kernel
theorem dX4_isLetter_12 : decode cX4_isLetter 12 = .ok (.iconst 1, 1) := by decide +kernel
theorem dX4_isLetter_13 : decode cX4_isLetter 13 = .ok (.goto 4, 3) := by decide +kernel
theorem dX4_isLetter_16 : decode cX4_isLetter 16 = .ok (.iconst 0, 1) := by decide +kernel
theorem dX4_isLetter_17 : decode cX4_isLetter 17 = .ok (.ireturn, 1) := by decide +kernel
theorem dX4_isDigit_0 : decode cX4_isDigit 0 = .ok (.iload_n 0, 1) := by decide +kernel
theorem dX4_isDigit_1 : decode cX4_isDigit 1 = .ok (.bipush 48, 2) := by decide +kernel
theorem dX4_isDigit_3 : decode cX4_isDigit 3 = .ok (.if_icmp .lt 13, 3) := by decide +kernel
theorem dX4_isDigit_6 : decode cX4_isDigit 6 = .ok (.iload_n 0, 1) := by decide +kernel
theorem dX4_isDigit_7 : decode cX4_isDigit 7 = .ok (.bipush 57, 2) := by decide +kernel
theorem dX4_isDigit_9 : decode cX4_isDigit 9 = .ok (.if_icmp .gt 7, 3) := by decide +kernel
theorem dX4_isDigit_12 : decode cX4_isDigit 12 = .ok (.iconst 1, 1) := by decide +kernel
theorem dX4_isDigit_13 : decode cX4_isDigit 13 = .ok (.goto 4, 3) := by decide +kernel
theorem dX4_isDigit_16 : decode cX4_isDigit 16 = .ok (.iconst 0, 1) := by decide +kernel
theorem dX4_isDigit_17 : decode cX4_isDigit 17 = .ok (.ireturn, 1) := by decide +kernel
theorem dX4_next_0 : decode cX4_next 0 = .ok (.aload_n 0, 1) := by decide +kernel
theorem dX4_next_1 : decode cX4_next 1 = .ok (.getfield 127, 3) := by decide +kernel
theorem dX4_next_4 : decode cX4_next 4 = .ok (.aload_n 0, 1) := by decide +kernel
theorem dX4_next_5 : decode cX4_next 5 = .ok (.getfield 124, 3) := by decide +kernel
theorem dX4_next_8 : decode cX4_next 8 = .ok (.if_icmp .ge 30, 3) := by decide +kernel
theorem dX4_next_11 : decode cX4_next 11 = .ok (.aload_n 0, 1) := by decide +kernel
theorem dX4_next_12 : decode cX4_next 12 = .ok (.getfield 29, 3) := by decide +kernel
theorem dX4_next_15 : decode cX4_next 15 = .ok (.aload_n 0, 1) := by decide +kernel
theorem dX4_next_16 : decode cX4_next 16 = .ok (.getfield 127, 3) := by decide +kernel
theorem dX4_next_19 : decode cX4_next 19 = .ok (.iaload, 1) := by decide +kernel
theorem dX4_next_20 : decode cX4_next 20 = .ok (.bipush 32, 2) := by decide +kernel
theorem dX4_next_22 : decode cX4_next 22 = .ok (.if_icmp .ne 16, 3) := by decide +kernel
theorem dX4_next_25 : decode cX4_next 25 = .ok (.aload_n 0, 1) := by decide +kernel
theorem dX4_next_26 : decode cX4_next 26 = .ok (.dup, 1) := by decide +kernel
theorem dX4_next_27 : decode cX4_next 27 = .ok (.getfield 127, 3) := by decide +kernel
theorem dX4_next_30 : decode cX4_next 30 = .ok (.iconst 1, 1) := by decide +kernel
theorem dX4_next_31 : decode cX4_next 31 = .ok (.iadd, 1) := by decide +kernel
theorem dX4_next_32 : decode cX4_next 32 = .ok (.putfield 127, 3) := by decide +kernel
theorem dX4_next_35 : decode cX4_next 35 = .ok (.goto (-35), 3) := by decide +kernel
theorem dX4_next_38 : decode cX4_next 38 = .ok (.aload_n 0, 1) := by decide +kernel
theorem dX4_next_39 : decode cX4_next 39 = .ok (.aload_n 0, 1) := by decide +kernel
theorem dX4_next_40 : decode cX4_next 40 = .ok (.getfield 127, 3) := by decide +kernel
theorem dX4_next_43 : decode cX4_next 43 = .ok (.putfield 130, 3) := by decide +kernel
theorem dX4_next_46 : decode cX4_next 46 = .ok (.aload_n 0, 1) := by decide +kernel
theorem dX4_next_47 : decode cX4_next 47 = .ok (.getfield 127, 3) := by decide +kernel
theorem dX4_next_50 : decode cX4_next 50 = .ok (.aload_n 0, 1) := by decide +kernel
theorem dX4_next_51 : decode cX4_next 51 = .ok (.getfield 124, 3) := by decide +kernel
theorem dX4_next_54 : decode cX4_next 54 = .ok (.if_icmp .ne 9, 3) := by decide +kernel
theorem dX4_next_57 : decode cX4_next 57 = .ok (.aload_n 0, 1) := by decide +kernel
theorem dX4_next_58 : decode cX4_next 58 = .ok (.iconst 0, 1) := by decide +kernel
theorem dX4_next_59 : decode cX4_next 59 = .ok (.putfield 133, 3) := by decide +kernel
theorem dX4_next_62 : decode cX4_next 62 = .ok (.return_, 1) := by decide +kernel
theorem dX4_next_63 : decode cX4_next 63 = .ok (.aload_n 0, 1) := by decide +kernel
theorem dX4_next_64 : decode cX4_next 64 = .ok (.getfield 29, 3) := by decide +kernel
theorem dX4_next_67 : decode cX4_next 67 = .ok (.aload_n 0, 1) := by decide +kernel
theorem dX4_next_68 : decode cX4_next 68 = .ok (.getfield 127, 3) := by decide +kernel
theorem dX4_next_71 : decode cX4_next 71 = .ok (.iaload, 1) := by decide +kernel
theorem dX4_next_72 : decode cX4_next 72 = .ok (.istore_n 1, 1) := by decide +kernel
theorem dX4_next_73 : decode cX4_next 73 = .ok (.iload_n 1, 1) := by decide +kernel
theorem dX4_next_74 : decode cX4_next 74 = .ok (.invokestatic 136, 3) := by decide +kernel
theorem dX4_next_77 : decode cX4_next 77 = .ok (.ifCond .eq 47, 3) := by decide +kernel
theorem dX4_next_80 : decode cX4_next 80 = .ok (.aload_n 0, 1) := by decide +kernel
theorem dX4_next_81 : decode cX4_next 81 = .ok (.iconst 1, 1) := by decide +kernel
theorem dX4_next_82 : decode cX4_next 82 = .ok (.putfield 133, 3) := by decide +kernel
theorem dX4_next_85 : decode cX4_next 85 = .ok (.aload_n 0, 1) := by decide +kernel
theorem dX4_next_86 : decode cX4_next 86 = .ok (.getfield 127, 3) := by decide +kernel
theorem dX4_next_89 : decode cX4_next 89 = .ok (.aload_n 0, 1) := by decide +kernel
theorem dX4_next_90 : decode cX4_next 90 = .ok (.getfield 124, 3) := by decide +kernel
theorem dX4_next_93 : decode cX4_next 93 = .ok (.if_icmp .ge 172, 3) := by decide +kernel
theorem dX4_next_96 : decode cX4_next 96 = .ok (.aload_n 0, 1) := by decide +kernel
theorem dX4_next_97 : decode cX4_next 97 = .ok (.getfield 29, 3) := by decide +kernel
theorem dX4_next_100 : decode cX4_next 100 = .ok (.aload_n 0, 1) := by decide +kernel
theorem dX4_next_101 : decode cX4_next 101 = .ok (.getfield 127, 3) := by decide +kernel
theorem dX4_next_104 : decode cX4_next 104 = .ok (.iaload, 1) := by decide +kernel
theorem dX4_next_105 : decode cX4_next 105 = .ok (.invokestatic 136, 3) := by decide +kernel
theorem dX4_next_108 : decode cX4_next 108 = .ok (.ifCond .eq 157, 3) := by decide +kernel
theorem dX4_next_111 : decode cX4_next 111 = .ok (.aload_n 0, 1) := by decide +kernel
theorem dX4_next_112 : decode cX4_next 112 = .ok (.dup, 1) := by decide +kernel
theorem dX4_next_113 : decode cX4_next 113 = .ok (.getfield 127, 3) := by decide +kernel
theorem dX4_next_116 : decode cX4_next 116 = .ok (.iconst 1, 1) := by decide +kernel
theorem dX4_next_117 : decode cX4_next 117 = .ok (.iadd, 1) := by decide +kernel
theorem dX4_next_118 : decode cX4_next 118 = .ok (.putfield 127, 3) := by decide +kernel
theorem dX4_next_121 : decode cX4_next 121 = .ok (.goto (-36), 3) := by decide +kernel
theorem dX4_next_124 : decode cX4_next 124 = .ok (.iload_n 1, 1) := by decide +kernel
theorem dX4_next_125 : decode cX4_next 125 = .ok (.invokestatic 139, 3) := by decide +kernel
theorem dX4_next_128 : decode cX4_next 128 = .ok (.ifCond .eq 112, 3) := by decide +kernel
theorem dX4_next_131 : decode cX4_next 131 = .ok (.aload_n 0, 1) := by decide +kernel
theorem dX4_next_132 : decode cX4_next 132 = .ok (.iconst 2, 1) := by decide +kernel
theorem dX4_next_133 : decode cX4_next 133 = .ok (.putfield 133, 3) := by decide +kernel
theorem dX4_next_136 : decode cX4_next 136 = .ok (.aload_n 0, 1) := by decide +kernel
theorem dX4_next_137 : decode cX4_next 137 = .ok (.iconst 0, 1) := by decide +kernel
theorem dX4_next_138 : decode cX4_next 138 = .ok (.putfield 142, 3) := by decide +kernel
theorem dX4_next_141 : decode cX4_next 141 = .ok (.aload_n 0, 1) := by decide +kernel
theorem dX4_next_142 : decode cX4_next 142 = .ok (.getfield 127, 3) := by decide +kernel
theorem dX4_next_145 : decode cX4_next 145 = .ok (.aload_n 0, 1) := by decide +kernel
theorem dX4_next_146 : decode cX4_next 146 = .ok (.getfield 124, 3) := by decide +kernel
theorem dX4_next_149 : decode cX4_next 149 = .ok (.if_icmp .ge 68, 3) := by decide +kernel
theorem dX4_next_152 : decode cX4_next 152 = .ok (.aload_n 0, 1) := by decide +kernel
theorem dX4_next_153 : decode cX4_next 153 = .ok (.getfield 29, 3) := by decide +kernel
theorem dX4_next_156 : decode cX4_next 156 = .ok (.aload_n 0, 1) := by decide +kernel
theorem dX4_next_157 : decode cX4_next 157 = .ok (.getfield 127, 3) := by decide +kernel
theorem dX4_next_160 : decode cX4_next 160 = .ok (.iaload, 1) := by decide +kernel
theorem dX4_next_161 : decode cX4_next 161 = .ok (.invokestatic 139, 3) := by decide +kernel
theorem dX4_next_164 : decode cX4_next 164 = .ok (.ifCond .eq 53, 3) := by decide +kernel
theorem dX4_next_167 : decode cX4_next 167 = .ok (.aload_n 0, 1) := by decide +kernel
theorem dX4_next_168 : decode cX4_next 168 = .ok (.getfield 127, 3) := by decide +kernel
theorem dX4_next_171 : decode cX4_next 171 = .ok (.aload_n 0, 1) := by decide +kernel
theorem dX4_next_172 : decode cX4_next 172 = .ok (.getfield 130, 3) := by decide +kernel
theorem dX4_next_175 : decode cX4_next 175 = .ok (.isub, 1) := by decide +kernel
theorem dX4_next_176 : decode cX4_next 176 = .ok (.iconst 3, 1) := by decide +kernel
theorem dX4_next_177 : decode cX4_next 177 = .ok (.if_icmp .ge 27, 3) := by decide +kernel
theorem dX4_next_180 : decode cX4_next 180 = .ok (.aload_n 0, 1) := by decide +kernel
theorem dX4_next_181 : decode cX4_next 181 = .ok (.bipush 10, 2) := by decide +kernel
theorem dX4_next_183 : decode cX4_next 183 = .ok (.aload_n 0, 1) := by decide +kernel
theorem dX4_next_184 : decode cX4_next 184 = .ok (.getfield 142, 3) := by decide +kernel
theorem dX4_next_187 : decode cX4_next 187 = .ok (.imul, 1) := by decide +kernel
theorem dX4_next_188 : decode cX4_next 188 = .ok (.aload_n 0, 1) := by decide +kernel
theorem dX4_next_189 : decode cX4_next 189 = .ok (.getfield 29, 3) := by decide +kernel
theorem dX4_next_192 : decode cX4_next 192 = .ok (.aload_n 0, 1) := by decide +kernel
theorem dX4_next_193 : decode cX4_next 193 = .ok (.getfield 127, 3) := by decide +kernel
theorem dX4_next_196 : decode cX4_next 196 = .ok (.iaload, 1) := by decide +kernel
theorem dX4_next_197 : decode cX4_next 197 = .ok (.iadd, 1) := by decide +kernel
theorem dX4_next_198 : decode cX4_next 198 = .ok (.bipush 48, 2) := by decide +kernel
theorem dX4_next_200 : decode cX4_next 200 = .ok (.isub, 1) := by decide +kernel
theorem dX4_next_201 : decode cX4_next 201 = .ok (.putfield 142, 3) := by decide +kernel
theorem dX4_next_204 : decode cX4_next 204 = .ok (.aload_n 0, 1) := by decide +kernel
theorem dX4_next_205 : decode cX4_next 205 = .ok (.dup, 1) := by decide +kernel
theorem dX4_next_206 : decode cX4_next 206 = .ok (.getfield 127, 3) := by decide +kernel
theorem dX4_next_209 : decode cX4_next 209 = .ok (.iconst 1, 1) := by decide +kernel
theorem dX4_next_210 : decode cX4_next 210 = .ok (.iadd, 1) := by decide +kernel
theorem dX4_next_211 : decode cX4_next 211 = .ok (.putfield 127, 3) := by decide +kernel
theorem dX4_next_214 : decode cX4_next 214 = .ok (.goto (-73), 3) := by decide +kernel
theorem dX4_next_217 : decode cX4_next 217 = .ok (.aload_n 0, 1) := by decide +kernel
theorem dX4_next_218 : decode cX4_next 218 = .ok (.getfield 127, 3) := by decide +kernel
theorem dX4_next_221 : decode cX4_next 221 = .ok (.aload_n 0, 1) := by decide +kernel
theorem dX4_next_222 : decode cX4_next 222 = .ok (.getfield 130, 3) := by decide +kernel
theorem dX4_next_225 : decode cX4_next 225 = .ok (.isub, 1) := by decide +kernel
theorem dX4_next_226 : decode cX4_next 226 = .ok (.iconst 2, 1) := by decide +kernel
theorem dX4_next_227 : decode cX4_next 227 = .ok (.if_icmp .le 38, 3) := by decide +kernel
theorem dX4_next_230 : decode cX4_next 230 = .ok (.aload_n 0, 1) := by decide +kernel
theorem dX4_next_231 : decode cX4_next 231 = .ok (.sipush 1000, 3) := by decide +kernel
theorem dX4_next_234 : decode cX4_next 234 = .ok (.putfield 142, 3) := by decide +kernel
theorem dX4_next_237 : decode cX4_next 237 = .ok (.goto 28, 3) := by decide +kernel
theorem dX4_next_240 : decode cX4_next 240 = .ok (.aload_n 0, 1) := by decide +kernel
theorem dX4_next_241 : decode cX4_next 241 = .ok (.iload_n 1, 1) := by decide +kernel
theorem dX4_next_242 : decode cX4_next 242 = .ok (.bipush 59, 2) := by decide +kernel
theorem dX4_next_244 : decode cX4_next 244 = .ok (.if_icmp .ne 7, 3) := by decide +kernel
theorem dX4_next_247 : decode cX4_next 247 = .ok (.iconst 3, 1) := by decide +kernel
theorem dX4_next_248 : decode cX4_next 248 = .ok (.goto 4, 3) := by decide +kernel
theorem dX4_next_251 : decode cX4_next 251 = .ok (.iconst (-1), 1) := by decide +kernel
theorem dX4_next_252 : decode cX4_next 252 = .ok (.putfield 133, 3) := by decide +kernel
theorem dX4_next_255 : decode cX4_next 255 = .ok (.aload_n 0, 1) := by decide +kernel
theorem dX4_next_256 : decode cX4_next 256 = .ok (.dup, 1) := by decide +kernel
theorem dX4_next_257 : decode cX4_next 257 = .ok (.getfield 127, 3) := by decide +kernel
theorem dX4_next_260 : decode cX4_next 260 = .ok (.iconst 1, 1) := by decide +kernel
theorem dX4_next_261 : decode cX4_next 261 = .ok (.iadd, 1) := by decide +kernel
theorem dX4_next_262 : decode cX4_next 262 = .ok (.putfield 127, 3) := by decide +kernel
theorem dX4_next_265 : decode cX4_next 265 = .ok (.return_, 1) := by decide +kernel
theorem dX4_isWord_0 : decode cX4_isWord 0 = .ok (.aload_n 0, 1) := by decide +kernel
theorem dX4_isWord_1 : decode cX4_isWord 1 = .ok (.getfield 133, 3) := by decide +kernel
theorem dX4_isWord_4 : decode cX4_isWord 4 = .ok (.iconst 1, 1) := by decide +kernel
theorem dX4_isWord_5 : decode cX4_isWord 5 = .ok (.if_icmp .ne 19, 3) := by decide +kernel
theorem dX4_isWord_8 : decode cX4_isWord 8 = .ok (.aload_n 0, 1) := by decide +kernel
theorem dX4_isWord_9 : decode cX4_isWord 9 = .ok (.getfield 127, 3) := by decide +kernel
theorem dX4_isWord_12 : decode cX4_isWord 12 = .ok (.aload_n 0, 1) := by decide +kernel
theorem dX4_isWord_13 : decode cX4_isWord 13 = .ok (.getfield 130, 3) := by decide +kernel
theorem dX4_isWord_16 : decode cX4_isWord 16 = .ok (.isub, 1) := by decide +kernel
theorem dX4_isWord_17 : decode cX4_isWord 17 = .ok (.aload_n 1, 1) := by decide +kernel
theorem dX4_isWord_18 : decode cX4_isWord 18 = .ok (.invokevirtual 145, 3) := by decide +kernel
theorem dX4_isWord_21 : decode cX4_isWord 21 = .ok (.if_icmp .eq 5, 3) := by decide +kernel
theorem dX4_isWord_24 : decode cX4_isWord 24 = .ok (.iconst 0, 1) := by decide +kernel
theorem dX4_isWord_25 : decode cX4_isWord 25 = .ok (.ireturn, 1) := by decide +kernel
theorem dX4_isWord_26 : decode cX4_isWord 26 = .ok (.iconst 0, 1) := by decide +kernel
theorem dX4_isWord_27 : decode cX4_isWord 27 = .ok (.istore_n 2, 1) := by decide +kernel
theorem dX4_isWord_28 : decode cX4_isWord 28 = .ok (.iload_n 2, 1) := by decide +kernel
theorem dX4_isWord_29 : decode cX4_isWord 29 = .ok (.aload_n 1, 1) := by decide +kernel
theorem dX4_isWord_30 : decode cX4_isWord 30 = .ok (.invokevirtual 145, 3) := by decide +kernel
theorem dX4_isWord_33 : decode cX4_isWord 33 = .ok (.if_icmp .ge 30, 3) := by decide +kernel
theorem dX4_isWord_36 : decode cX4_isWord 36 = .ok (.aload_n 0, 1) := by decide +kernel
theorem dX4_isWord_37 : decode cX4_isWord 37 = .ok (.getfield 29, 3) := by decide +kernel
theorem dX4_isWord_40 : decode cX4_isWord 40 = .ok (.aload_n 0, 1) := by decide +kernel
theorem dX4_isWord_41 : decode cX4_isWord 41 = .ok (.getfield 130, 3) := by decide +kernel
theorem dX4_isWord_44 : decode cX4_isWord 44 = .ok (.iload_n 2, 1) := by decide +kernel
theorem dX4_isWord_45 : decode cX4_isWord 45 = .ok (.iadd, 1) := by decide +kernel
theorem dX4_isWord_46 : decode cX4_isWord 46 = .ok (.iaload, 1) := by decide +kernel
theorem dX4_isWord_47 : decode cX4_isWord 47 = .ok (.aload_n 1, 1) := by decide +kernel
theorem dX4_isWord_48 : decode cX4_isWord 48 = .ok (.iload_n 2, 1) := by decide +kernel
theorem dX4_isWord_49 : decode cX4_isWord 49 = .ok (.invokevirtual 150, 3) := by decide +kernel
theorem dX4_isWord_52 : decode cX4_isWord 52 = .ok (.if_icmp .eq 5, 3) := by decide +kernel
theorem dX4_isWord_55 : decode cX4_isWord 55 = .ok (.iconst 0, 1) := by decide +kernel
theorem dX4_isWord_56 : decode cX4_isWord 56 = .ok (.ireturn, 1) := by decide +kernel
theorem dX4_isWord_57 : decode cX4_isWord 57 = .ok (.iinc 2 1, 3) := by decide +kernel
theorem dX4_isWord_60 : decode cX4_isWord 60 = .ok (.goto (-32), 3) := by decide +kernel
theorem dX4_isWord_63 : decode cX4_isWord 63 = .ok (.iconst 1, 1) := by decide +kernel
theorem dX4_isWord_64 : decode cX4_isWord 64 = .ok (.ireturn, 1) := by decide +kernel
theorem dX4_number_0 : decode cX4_number 0 = .ok (.aload_n 0, 1) := by decide +kernel
theorem dX4_number_1 : decode cX4_number 1 = .ok (.invokevirtual 154, 3) := by decide +kernel
theorem dX4_number_4 : decode cX4_number 4 = .ok (.aload_n 0, 1) := by decide +kernel
theorem dX4_number_5 : decode cX4_number 5 = .ok (.getfield 133, 3) := by decide +kernel
theorem dX4_number_8 : decode cX4_number 8 = .ok (.iconst 2, 1) := by decide +kernel
theorem dX4_number_9 : decode cX4_number 9 = .ok (.if_icmp .ne 19, 3) := by decide +kernel
theorem dX4_number_12 : decode cX4_number 12 = .ok (.aload_n 0, 1) := by decide +kernel
theorem dX4_number_13 : decode cX4_number 13 = .ok (.getfield 142, 3) := by decide +kernel
theorem dX4_number_16 : decode cX4_number 16 = .ok (.iload_n 1, 1) := by decide +kernel
theorem dX4_number_17 : decode cX4_number 17 = .ok (.iload_n 2, 1) := by decide +kernel
theorem dX4_number_18 : decode cX4_number 18 = .ok (.invokestatic 62, 3) := by decide +kernel
theorem dX4_number_21 : decode cX4_number 21 = .ok (.ifCond .eq 7, 3) := by decide +kernel
theorem dX4_number_24 : decode cX4_number 24 = .ok (.iconst 1, 1) := by decide +kernel
theorem dX4_number_25 : decode cX4_number 25 = .ok (.goto 4, 3) := by decide +kernel
theorem dX4_number_28 : decode cX4_number 28 = .ok (.iconst 0, 1) := by decide +kernel
theorem dX4_number_29 : decode cX4_number 29 = .ok (.ireturn, 1) := by decide +kernel
theorem dX4_statement_0 : decode cX4_statement 0 = .ok (.aload_n 0, 1) := by decide +kernel
theorem dX4_statement_1 : decode cX4_statement 1 = .ok (.ldc 157, 2) := by decide +kernel
theorem dX4_statement_3 : decode cX4_statement 3 = .ok (.invokevirtual 159, 3) := by decide +kernel
theorem dX4_statement_6 : decode cX4_statement 6 = .ok (.ifCond .eq 26, 3) := by decide +kernel
theorem dX4_statement_9 : decode cX4_statement 9 = .ok (.aload_n 0, 1) := by decide +kernel
theorem dX4_statement_10 : decode cX4_statement 10 = .ok (.iconst 1, 1) := by decide +kernel
theorem dX4_statement_11 : decode cX4_statement 11 = .ok (.bipush 9, 2) := by decide +kernel
theorem dX4_statement_13 : decode cX4_statement 13 = .ok (.invokevirtual 163, 3) := by decide +kernel
theorem dX4_statement_16 : decode cX4_statement 16 = .ok (.ifCond .ne 5, 3) := by decide +kernel
theorem dX4_statement_19 : decode cX4_statement 19 = .ok (.iconst 0, 1) := by decide +kernel
theorem dX4_statement_20 : decode cX4_statement 20 = .ok (.ireturn, 1) := by decide +kernel
theorem dX4_statement_21 : decode cX4_statement 21 = .ok (.aload_n 0, 1) := by decide +kernel
theorem dX4_statement_22 : decode cX4_statement 22 = .ok (.aload_n 0, 1) := by decide +kernel
theorem dX4_statement_23 : decode cX4_statement 23 = .ok (.getfield 142, 3) := by decide +kernel
theorem dX4_statement_26 : decode cX4_statement 26 = .ok (.invokevirtual 44, 3) := by decide +kernel
theorem dX4_statement_29 : decode cX4_statement 29 = .ok (.goto 289, 3) := by decide +kernel
theorem dX4_statement_32 : decode cX4_statement 32 = .ok (.aload_n 0, 1) := by decide +kernel
theorem dX4_statement_33 : decode cX4_statement 33 = .ok (.ldc 166, 2) := by decide +kernel
theorem dX4_statement_35 : decode cX4_statement 35 = .ok (.invokevirtual 159, 3) := by decide +kernel
theorem dX4_statement_38 : decode cX4_statement 38 = .ok (.ifCond .eq 39, 3) := by decide +kernel
theorem dX4_statement_41 : decode cX4_statement 41 = .ok (.aload_n 0, 1) := by decide +kernel
theorem dX4_statement_42 : decode cX4_statement 42 = .ok (.iconst 0, 1) := by decide +kernel
theorem dX4_statement_43 : decode cX4_statement 43 = .ok (.aload_n 0, 1) := by decide +kernel
theorem dX4_statement_44 : decode cX4_statement 44 = .ok (.getfield 66, 3) := by decide +kernel
theorem dX4_statement_47 : decode cX4_statement 47 = .ok (.iconst 1, 1) := by decide +kernel
theorem dX4_statement_48 : decode cX4_statement 48 = .ok (.isub, 1) := by decide +kernel
theorem dX4_statement_49 : decode cX4_statement 49 = .ok (.invokevirtual 163, 3) := by decide +kernel
theorem dX4_statement_52 : decode cX4_statement 52 = .ok (.ifCond .ne 5, 3) := by decide +kernel
theorem dX4_statement_55 : decode cX4_statement 55 = .ok (.iconst 0, 1) := by decide +kernel
theorem dX4_statement_56 : decode cX4_statement 56 = .ok (.ireturn, 1) := by decide +kernel
theorem dX4_statement_57 : decode cX4_statement 57 = .ok (.aload_n 0, 1) := by decide +kernel
theorem dX4_statement_58 : decode cX4_statement 58 = .ok (.dup, 1) := by decide +kernel
theorem dX4_statement_59 : decode cX4_statement 59 = .ok (.getfield 111, 3) := by decide +kernel
theorem dX4_statement_62 : decode cX4_statement 62 = .ok (.iconst 1, 1) := by decide +kernel
theorem dX4_statement_63 : decode cX4_statement 63 = .ok (.aload_n 0, 1) := by decide +kernel
theorem dX4_statement_64 : decode cX4_statement 64 = .ok (.getfield 142, 3) := by decide +kernel
theorem dX4_statement_67 : decode cX4_statement 67 = .ok (.ishl, 1) := by decide +kernel
theorem dX4_statement_68 : decode cX4_statement 68 = .ok (.iconst (-1), 1) := by decide +kernel
theorem dX4_statement_69 : decode cX4_statement 69 = .ok (.ixor, 1) := by decide +kernel
theorem dX4_statement_70 : decode cX4_statement 70 = .ok (.iand, 1) := by decide +kernel
theorem dX4_statement_71 : decode cX4_statement 71 = .ok (.putfield 111, 3) := by decide +kernel
theorem dX4_statement_74 : decode cX4_statement 74 = .ok (.goto 244, 3) := by decide +kernel
theorem dX4_statement_77 : decode cX4_statement 77 = .ok (.aload_n 0, 1) := by decide +kernel
theorem dX4_statement_78 : decode cX4_statement 78 = .ok (.ldc 168, 2) := by decide +kernel
theorem dX4_statement_80 : decode cX4_statement 80 = .ok (.invokevirtual 159, 3) := by decide +kernel
theorem dX4_statement_83 : decode cX4_statement 83 = .ok (.ifCond .eq 49, 3) := by decide +kernel
theorem dX4_statement_86 : decode cX4_statement 86 = .ok (.aload_n 0, 1) := by decide +kernel
theorem dX4_statement_87 : decode cX4_statement 87 = .ok (.iconst 0, 1) := by decide +kernel
theorem dX4_statement_88 : decode cX4_statement 88 = .ok (.aload_n 0, 1) := by decide +kernel
theorem dX4_statement_89 : decode cX4_statement 89 = .ok (.getfield 66, 3) := by decide +kernel
theorem dX4_statement_92 : decode cX4_statement 92 = .ok (.iconst 1, 1) := by decide +kernel
theorem dX4_statement_93 : decode cX4_statement 93 = .ok (.isub, 1) := by decide +kernel
theorem dX4_statement_94 : decode cX4_statement 94 = .ok (.invokevirtual 163, 3) := by decide +kernel
theorem dX4_statement_97 : decode cX4_statement 97 = .ok (.ifCond .ne 5, 3) := by decide +kernel
theorem dX4_statement_100 : decode cX4_statement 100 = .ok (.iconst 0, 1) := by decide +kernel
theorem dX4_statement_101 : decode cX4_statement 101 = .ok (.ireturn, 1) := by decide +kernel
theorem dX4_statement_102 : decode cX4_statement 102 = .ok (.aload_n 0, 1) := by decide +kernel
theorem dX4_statement_103 : decode cX4_statement 103 = .ok (.getfield 142, 3) := by decide +kernel
theorem dX4_statement_106 : decode cX4_statement 106 = .ok (.istore_n 1, 1) := by decide +kernel
theorem dX4_statement_107 : decode cX4_statement 107 = .ok (.aload_n 0, 1) := by decide +kernel
theorem dX4_statement_108 : decode cX4_statement 108 = .ok (.iconst 0, 1) := by decide +kernel
theorem dX4_statement_109 : decode cX4_statement 109 = .ok (.bipush 9, 2) := by decide +kernel
theorem dX4_statement_111 : decode cX4_statement 111 = .ok (.invokevirtual 163, 3) := by decide +kernel
theorem dX4_statement_114 : decode cX4_statement 114 = .ok (.ifCond .ne 5, 3) := by decide +kernel
theorem dX4_statement_117 : decode cX4_statement 117 = .ok (.iconst 0, 1) := by decide +kernel
theorem dX4_statement_118 : decode cX4_statement 118 = .ok (.ireturn, 1) := by decide +kernel
theorem dX4_statement_119 : decode cX4_statement 119 = .ok (.aload_n 0, 1) := by decide +kernel
theorem dX4_statement_120 : decode cX4_statement 120 = .ok (.getfield 20, 3) := by decide +kernel
theorem dX4_statement_123 : decode cX4_statement 123 = .ok (.iload_n 1, 1) := by decide +kernel
theorem dX4_statement_124 : decode cX4_statement 124 = .ok (.aload_n 0, 1) := by decide +kernel
theorem dX4_statement_125 : decode cX4_statement 125 = .ok (.getfield 142, 3) := by decide +kernel
theorem dX4_statement_128 : decode cX4_statement 128 = .ok (.iastore, 1) := by decide +kernel
theorem dX4_statement_129 : decode cX4_statement 129 = .ok (.goto 189, 3) := by decide +kernel
theorem dX4_statement_132 : decode cX4_statement 132 = .ok (.aload_n 0, 1) := by decide +kernel
theorem dX4_statement_133 : decode cX4_statement 133 = .ok (.ldc 169, 2) := by decide +kernel
theorem dX4_statement_135 : decode cX4_statement 135 = .ok (.invokevirtual 159, 3) := by decide +kernel
theorem dX4_statement_138 : decode cX4_statement 138 = .ok (.ifCond .eq 26, 3) := by decide +kernel
theorem dX4_statement_141 : decode cX4_statement 141 = .ok (.aload_n 0, 1) := by decide +kernel
theorem dX4_statement_142 : decode cX4_statement 142 = .ok (.iconst 0, 1) := by decide +kernel
theorem dX4_statement_143 : decode cX4_statement 143 = .ok (.bipush 9, 2) := by decide +kernel
theorem dX4_statement_145 : decode cX4_statement 145 = .ok (.invokevirtual 163, 3) := by decide +kernel
theorem dX4_statement_148 : decode cX4_statement 148 = .ok (.ifCond .ne 5, 3) := by decide +kernel
theorem dX4_statement_151 : decode cX4_statement 151 = .ok (.iconst 0, 1) := by decide +kernel
theorem dX4_statement_152 : decode cX4_statement 152 = .ok (.ireturn, 1) := by decide +kernel
theorem dX4_statement_153 : decode cX4_statement 153 = .ok (.aload_n 0, 1) := by decide +kernel
theorem dX4_statement_154 : decode cX4_statement 154 = .ok (.aload_n 0, 1) := by decide +kernel
theorem dX4_statement_155 : decode cX4_statement 155 = .ok (.getfield 142, 3) := by decide +kernel
theorem dX4_statement_158 : decode cX4_statement 158 = .ok (.putfield 48, 3) := by decide +kernel
theorem dX4_statement_161 : decode cX4_statement 161 = .ok (.goto 157, 3) := by decide +kernel
theorem dX4_statement_164 : decode cX4_statement 164 = .ok (.aload_n 0, 1) := by decide +kernel
theorem dX4_statement_165 : decode cX4_statement 165 = .ok (.getfield 59, 3) := by decide +kernel
theorem dX4_statement_168 : decode cX4_statement 168 = .ok (.bipush 6, 2) := by decide +kernel
theorem dX4_statement_170 : decode cX4_statement 170 = .ok (.if_icmp .ge 53, 3) := by decide +kernel
theorem dX4_statement_173 : decode cX4_statement 173 = .ok (.aload_n 0, 1) := by decide +kernel
theorem dX4_statement_174 : decode cX4_statement 174 = .ok (.ldc 170, 2) := by decide +kernel
theorem dX4_statement_176 : decode cX4_statement 176 = .ok (.invokevirtual 159, 3) := by decide +kernel
theorem dX4_statement_179 : decode cX4_statement 179 = .ok (.ifCond .eq 44, 3) := by decide +kernel
theorem dX4_statement_182 : decode cX4_statement 182 = .ok (.aload_n 0, 1) := by decide +kernel
theorem dX4_statement_183 : decode cX4_statement 183 = .ok (.iconst 0, 1) := by decide +kernel
theorem dX4_statement_184 : decode cX4_statement 184 = .ok (.iconst 5, 1) := by decide +kernel
theorem dX4_statement_185 : decode cX4_statement 185 = .ok (.invokevirtual 163, 3) := by decide +kernel
theorem dX4_statement_188 : decode cX4_statement 188 = .ok (.ifCond .ne 5, 3) := by decide +kernel
theorem dX4_statement_191 : decode cX4_statement 191 = .ok (.iconst 0, 1) := by decide +kernel
theorem dX4_statement_192 : decode cX4_statement 192 = .ok (.ireturn, 1) := by decide +kernel
theorem dX4_statement_193 : decode cX4_statement 193 = .ok (.aload_n 0, 1) := by decide +kernel
theorem dX4_statement_194 : decode cX4_statement 194 = .ok (.getfield 142, 3) := by decide +kernel
theorem dX4_statement_197 : decode cX4_statement 197 = .ok (.istore_n 1, 1) := by decide +kernel
theorem dX4_statement_198 : decode cX4_statement 198 = .ok (.aload_n 0, 1) := by decide +kernel
theorem dX4_statement_199 : decode cX4_statement 199 = .ok (.iconst 0, 1) := by decide +kernel
theorem dX4_statement_200 : decode cX4_statement 200 = .ok (.bipush 9, 2) := by decide +kernel
theorem dX4_statement_202 : decode cX4_statement 202 = .ok (.invokevirtual 163, 3) := by decide +kernel
theorem dX4_statement_205 : decode cX4_statement 205 = .ok (.ifCond .ne 5, 3) := by decide +kernel
theorem dX4_statement_208 : decode cX4_statement 208 = .ok (.iconst 0, 1) := by decide +kernel
theorem dX4_statement_209 : decode cX4_statement 209 = .ok (.ireturn, 1) := by decide +kernel
theorem dX4_statement_210 : decode cX4_statement 210 = .ok (.aload_n 0, 1) := by decide +kernel
theorem dX4_statement_211 : decode cX4_statement 211 = .ok (.iload_n 1, 1) := by decide +kernel
theorem dX4_statement_212 : decode cX4_statement 212 = .ok (.aload_n 0, 1) := by decide +kernel
theorem dX4_statement_213 : decode cX4_statement 213 = .ok (.getfield 142, 3) := by decide +kernel
theorem dX4_statement_216 : decode cX4_statement 216 = .ok (.invokevirtual 114, 3) := by decide +kernel
theorem dX4_statement_219 : decode cX4_statement 219 = .ok (.pop, 1) := by decide +kernel
theorem dX4_statement_220 : decode cX4_statement 220 = .ok (.goto 98, 3) := by decide +kernel
theorem dX4_statement_223 : decode cX4_statement 223 = .ok (.aload_n 0, 1) := by decide +kernel
theorem dX4_statement_224 : decode cX4_statement 224 = .ok (.ldc 172, 2) := by decide +kernel
theorem dX4_statement_226 : decode cX4_statement 226 = .ok (.invokevirtual 159, 3) := by decide +kernel
theorem dX4_statement_229 : decode cX4_statement 229 = .ok (.ifCond .eq 87, 3) := by decide +kernel
theorem dX4_statement_232 : decode cX4_statement 232 = .ok (.aload_n 0, 1) := by decide +kernel
theorem dX4_statement_233 : decode cX4_statement 233 = .ok (.iconst 0, 1) := by decide +kernel
theorem dX4_statement_234 : decode cX4_statement 234 = .ok (.aload_n 0, 1) := by decide +kernel
theorem dX4_statement_235 : decode cX4_statement 235 = .ok (.getfield 66, 3) := by decide +kernel
theorem dX4_statement_238 : decode cX4_statement 238 = .ok (.iconst 1, 1) := by decide +kernel
theorem dX4_statement_239 : decode cX4_statement 239 = .ok (.isub, 1) := by decide +kernel
theorem dX4_statement_240 : decode cX4_statement 240 = .ok (.invokevirtual 163, 3) := by decide +kernel
theorem dX4_statement_243 : decode cX4_statement 243 = .ok (.ifCond .ne 5, 3) := by decide +kernel
theorem dX4_statement_246 : decode cX4_statement 246 = .ok (.iconst 0, 1) := by decide +kernel
theorem dX4_statement_247 : decode cX4_statement 247 = .ok (.ireturn, 1) := by decide +kernel
theorem dX4_statement_248 : decode cX4_statement 248 = .ok (.iconst 0, 1) := by decide +kernel
theorem dX4_statement_249 : decode cX4_statement 249 = .ok (.istore_n 1, 1) := by decide +kernel
theorem dX4_statement_250 : decode cX4_statement 250 = .ok (.aload_n 0, 1) := by decide +kernel
theorem dX4_statement_251 : decode cX4_statement 251 = .ok (.getfield 133, 3) := by decide +kernel
theorem dX4_statement_254 : decode cX4_statement 254 = .ok (.iconst 2, 1) := by decide +kernel
theorem dX4_statement_255 : decode cX4_statement 255 = .ok (.if_icmp .ne 49, 3) := by decide +kernel
theorem dX4_statement_258 : decode cX4_statement 258 = .ok (.aload_n 0, 1) := by decide +kernel
theorem dX4_statement_259 : decode cX4_statement 259 = .ok (.getfield 142, 3) := by decide +kernel
theorem dX4_statement_262 : decode cX4_statement 262 = .ok (.iconst 0, 1) := by decide +kernel
theorem dX4_statement_263 : decode cX4_statement 263 = .ok (.aload_n 0, 1) := by decide +kernel
theorem dX4_statement_264 : decode cX4_statement 264 = .ok (.getfield 66, 3) := by decide +kernel
theorem dX4_statement_267 : decode cX4_statement 267 = .ok (.iconst 1, 1) := by decide +kernel
theorem dX4_statement_268 : decode cX4_statement 268 = .ok (.isub, 1) := by decide +kernel
theorem dX4_statement_269 : decode cX4_statement 269 = .ok (.invokestatic 62, 3) := by decide +kernel
theorem dX4_statement_272 : decode cX4_statement 272 = .ok (.ifCond .eq 14, 3) := by decide +kernel
theorem dX4_statement_275 : decode cX4_statement 275 = .ok (.iload_n 1, 1) := by decide +kernel
theorem dX4_statement_276 : decode cX4_statement 276 = .ok (.aload_n 0, 1) := by decide +kernel
theorem dX4_statement_277 : decode cX4_statement 277 = .ok (.getfield 142, 3) := by decide +kernel
theorem dX4_statement_280 : decode cX4_statement 280 = .ok (.invokestatic 121, 3) := by decide +kernel
theorem dX4_statement_283 : decode cX4_statement 283 = .ok (.ifCond .eq 5, 3) := by decide +kernel
theorem dX4_statement_286 : decode cX4_statement 286 = .ok (.iconst 0, 1) := by decide +kernel
theorem dX4_statement_287 : decode cX4_statement 287 = .ok (.ireturn, 1) := by decide +kernel
theorem dX4_statement_288 : decode cX4_statement 288 = .ok (.iload_n 1, 1) := by decide +kernel
theorem dX4_statement_289 : decode cX4_statement 289 = .ok (.iconst 1, 1) := by decide +kernel
theorem dX4_statement_290 : decode cX4_statement 290 = .ok (.aload_n 0, 1) := by decide +kernel
theorem dX4_statement_291 : decode cX4_statement 291 = .ok (.getfield 142, 3) := by decide +kernel
theorem dX4_statement_294 : decode cX4_statement 294 = .ok (.ishl, 1) := by decide +kernel
theorem dX4_statement_295 : decode cX4_statement 295 = .ok (.ior, 1) := by decide +kernel
theorem dX4_statement_296 : decode cX4_statement 296 = .ok (.istore_n 1, 1) := by decide +kernel
theorem dX4_statement_297 : decode cX4_statement 297 = .ok (.aload_n 0, 1) := by decide +kernel
theorem dX4_statement_298 : decode cX4_statement 298 = .ok (.invokevirtual 154, 3) := by decide +kernel
theorem dX4_statement_301 : decode cX4_statement 301 = .ok (.goto (-51), 3) := by decide +kernel
theorem dX4_statement_304 : decode cX4_statement 304 = .ok (.aload_n 0, 1) := by decide +kernel
theorem dX4_statement_305 : decode cX4_statement 305 = .ok (.dup, 1) := by decide +kernel
theorem dX4_statement_306 : decode cX4_statement 306 = .ok (.getfield 111, 3) := by decide +kernel
theorem dX4_statement_309 : decode cX4_statement 309 = .ok (.iload_n 1, 1) := by decide +kernel
theorem dX4_statement_310 : decode cX4_statement 310 = .ok (.iand, 1) := by decide +kernel
theorem dX4_statement_311 : decode cX4_statement 311 = .ok (.putfield 111, 3) := by decide +kernel
theorem dX4_statement_314 : decode cX4_statement 314 = .ok (.iconst 1, 1) := by decide +kernel
theorem dX4_statement_315 : decode cX4_statement 315 = .ok (.ireturn, 1) := by decide +kernel
theorem dX4_statement_316 : decode cX4_statement 316 = .ok (.iconst 0, 1) := by decide +kernel
theorem dX4_statement_317 : decode cX4_statement 317 = .ok (.ireturn, 1) := by decide +kernel
theorem dX4_statement_318 : decode cX4_statement 318 = .ok (.aload_n 0, 1) := by decide +kernel
theorem dX4_statement_319 : decode cX4_statement 319 = .ok (.invokevirtual 154, 3) := by decide +kernel
theorem dX4_statement_322 : decode cX4_statement 322 = .ok (.iconst 1, 1) := by decide +kernel
theorem dX4_statement_323 : decode cX4_statement 323 = .ok (.ireturn, 1) := by decide +kernel
theorem dX4_school_0 : decode cX4_school 0 = .ok (.aload_n 0, 1) := by decide +kernel
theorem dX4_school_1 : decode cX4_school 1 = .ok (.aload_n 0, 1) := by decide +kernel
theorem dX4_school_2 : decode cX4_school 2 = .ok (.getfield 38, 3) := by decide +kernel
theorem dX4_school_5 : decode cX4_school 5 = .ok (.invokevirtual 174, 3) := by decide +kernel
theorem dX4_school_8 : decode cX4_school 8 = .ok (.aload_n 0, 1) := by decide +kernel
theorem dX4_school_9 : decode cX4_school 9 = .ok (.iconst 0, 1) := by decide +kernel
theorem dX4_school_10 : decode cX4_school 10 = .ok (.putfield 127, 3) := by decide +kernel
theorem dX4_school_13 : decode cX4_school 13 = .ok (.iconst 0, 1) := by decide +kernel
theorem dX4_school_14 : decode cX4_school 14 = .ok (.istore_n 1, 1) := by decide +kernel
theorem dX4_school_15 : decode cX4_school 15 = .ok (.iconst 1, 1) := by decide +kernel
theorem dX4_school_16 : decode cX4_school 16 = .ok (.istore_n 2, 1) := by decide +kernel
theorem dX4_school_17 : decode cX4_school 17 = .ok (.iload_n 2, 1) := by decide +kernel
theorem dX4_school_18 : decode cX4_school 18 = .ok (.ifCond .eq 58, 3) := by decide +kernel
theorem dX4_school_21 : decode cX4_school 21 = .ok (.aload_n 0, 1) := by decide +kernel
theorem dX4_school_22 : decode cX4_school 22 = .ok (.invokevirtual 154, 3) := by decide +kernel
theorem dX4_school_25 : decode cX4_school 25 = .ok (.aload_n 0, 1) := by decide +kernel
theorem dX4_school_26 : decode cX4_school 26 = .ok (.invokevirtual 178, 3) := by decide +kernel
theorem dX4_school_29 : decode cX4_school 29 = .ok (.istore_n 2, 1) := by decide +kernel
theorem dX4_school_30 : decode cX4_school 30 = .ok (.iload_n 2, 1) := by decide +kernel
theorem dX4_school_31 : decode cX4_school 31 = .ok (.ifCond .eq 6, 3) := by decide +kernel
theorem dX4_school_34 : decode cX4_school 34 = .ok (.iinc 1 1, 3) := by decide +kernel
theorem dX4_school_37 : decode cX4_school 37 = .ok (.iload_n 2, 1) := by decide +kernel
theorem dX4_school_38 : decode cX4_school 38 = .ok (.ifCond .eq 17, 3) := by decide +kernel
theorem dX4_school_41 : decode cX4_school 41 = .ok (.aload_n 0, 1) := by decide +kernel
theorem dX4_school_42 : decode cX4_school 42 = .ok (.getfield 133, 3) := by decide +kernel
theorem dX4_school_45 : decode cX4_school 45 = .ok (.ifCond .ne 10, 3) := by decide +kernel
theorem dX4_school_48 : decode cX4_school 48 = .ok (.aload_n 0, 1) := by decide +kernel
theorem dX4_school_49 : decode cX4_school 49 = .ok (.iconst 0, 1) := by decide +kernel
theorem dX4_school_50 : decode cX4_school 50 = .ok (.putfield 124, 3) := by decide +kernel
theorem dX4_school_53 : decode cX4_school 53 = .ok (.iload_n 1, 1) := by decide +kernel
theorem dX4_school_54 : decode cX4_school 54 = .ok (.ireturn, 1) := by decide +kernel
theorem dX4_school_55 : decode cX4_school 55 = .ok (.iload_n 2, 1) := by decide +kernel
theorem dX4_school_56 : decode cX4_school 56 = .ok (.ifCond .eq 15, 3) := by decide +kernel
theorem dX4_school_59 : decode cX4_school 59 = .ok (.aload_n 0, 1) := by decide +kernel
theorem dX4_school_60 : decode cX4_school 60 = .ok (.getfield 133, 3) := by decide +kernel
theorem dX4_school_63 : decode cX4_school 63 = .ok (.iconst 3, 1) := by decide +kernel
theorem dX4_school_64 : decode cX4_school 64 = .ok (.if_icmp .ne 7, 3) := by decide +kernel
theorem dX4_school_67 : decode cX4_school 67 = .ok (.iconst 1, 1) := by decide +kernel
theorem dX4_school_68 : decode cX4_school 68 = .ok (.goto 4, 3) := by decide +kernel
theorem dX4_school_71 : decode cX4_school 71 = .ok (.iconst 0, 1) := by decide +kernel
theorem dX4_school_72 : decode cX4_school 72 = .ok (.istore_n 2, 1) := by decide +kernel
theorem dX4_school_73 : decode cX4_school 73 = .ok (.goto (-56), 3) := by decide +kernel
theorem dX4_school_76 : decode cX4_school 76 = .ok (.aload_n 0, 1) := by decide +kernel
theorem dX4_school_77 : decode cX4_school 77 = .ok (.aload_n 0, 1) := by decide +kernel
theorem dX4_school_78 : decode cX4_school 78 = .ok (.getfield 38, 3) := by decide +kernel
theorem dX4_school_81 : decode cX4_school 81 = .ok (.invokevirtual 182, 3) := by decide +kernel
theorem dX4_school_84 : decode cX4_school 84 = .ok (.aload_n 0, 1) := by decide +kernel
theorem dX4_school_85 : decode cX4_school 85 = .ok (.iconst 0, 1) := by decide +kernel
theorem dX4_school_86 : decode cX4_school 86 = .ok (.putfield 124, 3) := by decide +kernel
theorem dX4_school_89 : decode cX4_school 89 = .ok (.aload_n 0, 1) := by decide +kernel
theorem dX4_school_90 : decode cX4_school 90 = .ok (.bipush (-2), 2) := by decide +kernel
theorem dX4_school_92 : decode cX4_school 92 = .ok (.invokevirtual 69, 3) := by decide +kernel
theorem dX4_school_95 : decode cX4_school 95 = .ok (.pop, 1) := by decide +kernel
theorem dX4_school_96 : decode cX4_school 96 = .ok (.bipush (-20), 2) := by decide +kernel
theorem dX4_school_98 : decode cX4_school 98 = .ok (.aload_n 0, 1) := by decide +kernel
theorem dX4_school_99 : decode cX4_school 99 = .ok (.getfield 130, 3) := by decide +kernel
theorem dX4_school_102 : decode cX4_school 102 = .ok (.isub, 1) := by decide +kernel
theorem dX4_school_103 : decode cX4_school 103 = .ok (.ireturn, 1) := by decide +kernel
theorem dX4_still_0 : decode cX4_still 0 = .ok (.aload_n 0, 1) := by decide +kernel
theorem dX4_still_1 : decode cX4_still 1 = .ok (.getfield 111, 3) := by decide +kernel
theorem dX4_still_4 : decode cX4_still 4 = .ok (.iload_n 1, 1) := by decide +kernel
theorem dX4_still_5 : decode cX4_still 5 = .ok (.ishr, 1) := by decide +kernel
theorem dX4_still_6 : decode cX4_still 6 = .ok (.iload_n 1, 1) := by decide +kernel
theorem dX4_still_7 : decode cX4_still 7 = .ok (.ishl, 1) := by decide +kernel
theorem dX4_still_8 : decode cX4_still 8 = .ok (.ireturn, 1) := by decide +kernel
theorem dX4_weights_0 : decode cX4_weights 0 = .ok (.iconst 0, 1) := by decide +kernel
theorem dX4_weights_1 : decode cX4_weights 1 = .ok (.istore_n 2, 1) := by decide +kernel
theorem dX4_weights_2 : decode cX4_weights 2 = .ok (.iconst 0, 1) := by decide +kernel
theorem dX4_weights_3 : decode cX4_weights 3 = .ok (.istore_n 3, 1) := by decide +kernel
theorem dX4_weights_4 : decode cX4_weights 4 = .ok (.iload_n 3, 1) := by decide +kernel
theorem dX4_weights_5 : decode cX4_weights 5 = .ok (.aload_n 0, 1) := by decide +kernel
theorem dX4_weights_6 : decode cX4_weights 6 = .ok (.getfield 66, 3) := by decide +kernel
theorem dX4_weights_9 : decode cX4_weights 9 = .ok (.if_icmp .ge 26, 3) := by decide +kernel
theorem dX4_weights_12 : decode cX4_weights 12 = .ok (.iload_n 1, 1) := by decide +kernel
theorem dX4_weights_13 : decode cX4_weights 13 = .ok (.iload_n 3, 1) := by decide +kernel
theorem dX4_weights_14 : decode cX4_weights 14 = .ok (.invokestatic 121, 3) := by decide +kernel
theorem dX4_weights_17 : decode cX4_weights 17 = .ok (.ifCond .eq 12, 3) := by decide +kernel
theorem dX4_weights_20 : decode cX4_weights 20 = .ok (.iload_n 2, 1) := by decide +kernel
theorem dX4_weights_21 : decode cX4_weights 21 = .ok (.aload_n 0, 1) := by decide +kernel
theorem dX4_weights_22 : decode cX4_weights 22 = .ok (.getfield 20, 3) := by decide +kernel
theorem dX4_weights_25 : decode cX4_weights 25 = .ok (.iload_n 3, 1) := by decide +kernel
theorem dX4_weights_26 : decode cX4_weights 26 = .ok (.iaload, 1) := by decide +kernel
theorem dX4_weights_27 : decode cX4_weights 27 = .ok (.iadd, 1) := by decide +kernel
theorem dX4_weights_28 : decode cX4_weights 28 = .ok (.istore_n 2, 1) := by decide +kernel
theorem dX4_weights_29 : decode cX4_weights 29 = .ok (.iinc 3 1, 3) := by decide +kernel
theorem dX4_weights_32 : decode cX4_weights 32 = .ok (.goto (-28), 3) := by decide +kernel
theorem dX4_weights_35 : decode cX4_weights 35 = .ok (.iload_n 2, 1) := by decide +kernel
theorem dX4_weights_36 : decode cX4_weights 36 = .ok (.ireturn, 1) := by decide +kernel
theorem dX4_depth_0 : decode cX4_depth 0 = .ok (.aload_n 0, 1) := by decide +kernel
theorem dX4_depth_1 : decode cX4_depth 1 = .ok (.getfield 26, 3) := by decide +kernel
theorem dX4_depth_4 : decode cX4_depth 4 = .ok (.iload_n 1, 1) := by decide +kernel
theorem dX4_depth_5 : decode cX4_depth 5 = .ok (.iaload, 1) := by decide +kernel
theorem dX4_depth_6 : decode cX4_depth 6 = .ok (.aload_n 0, 1) := by decide +kernel
theorem dX4_depth_7 : decode cX4_depth 7 = .ok (.getfield 48, 3) := by decide +kernel
theorem dX4_depth_10 : decode cX4_depth 10 = .ok (.invokestatic 185, 3) := by decide +kernel
theorem dX4_depth_13 : decode cX4_depth 13 = .ok (.istore_n 2, 1) := by decide +kernel
theorem dX4_depth_14 : decode cX4_depth 14 = .ok (.aload_n 0, 1) := by decide +kernel
theorem dX4_depth_15 : decode cX4_depth 15 = .ok (.getfield 23, 3) := by decide +kernel
theorem dX4_depth_18 : decode cX4_depth 18 = .ok (.iload_n 1, 1) := by decide +kernel
theorem dX4_depth_19 : decode cX4_depth 19 = .ok (.iaload, 1) := by decide +kernel
theorem dX4_depth_20 : decode cX4_depth 20 = .ok (.iconst 3, 1) := by decide +kernel
theorem dX4_depth_21 : decode cX4_depth 21 = .ok (.if_icmp .ne 7, 3) := by decide +kernel
theorem dX4_depth_24 : decode cX4_depth 24 = .ok (.iload_n 2, 1) := by decide +kernel
theorem dX4_depth_25 : decode cX4_depth 25 = .ok (.iconst 1, 1) := by decide +kernel
theorem dX4_depth_26 : decode cX4_depth 26 = .ok (.iadd, 1) := by decide +kernel
theorem dX4_depth_27 : decode cX4_depth 27 = .ok (.ireturn, 1) := by decide +kernel
theorem dX4_depth_28 : decode cX4_depth 28 = .ok (.aload_n 0, 1) := by decide +kernel
theorem dX4_depth_29 : decode cX4_depth 29 = .ok (.getfield 23, 3) := by decide +kernel
theorem dX4_depth_32 : decode cX4_depth 32 = .ok (.iload_n 1, 1) := by decide +kernel
theorem dX4_depth_33 : decode cX4_depth 33 = .ok (.iaload, 1) := by decide +kernel
theorem dX4_depth_34 : decode cX4_depth 34 = .ok (.iconst 4, 1) := by decide +kernel
theorem dX4_depth_35 : decode cX4_depth 35 = .ok (.if_icmp .eq 5, 3) := by decide +kernel
theorem dX4_depth_38 : decode cX4_depth 38 = .ok (.iload_n 2, 1) := by decide +kernel
theorem dX4_depth_39 : decode cX4_depth 39 = .ok (.ireturn, 1) := by decide +kernel
theorem dX4_depth_40 : decode cX4_depth 40 = .ok (.iconst (-1), 1) := by decide +kernel
theorem dX4_depth_41 : decode cX4_depth 41 = .ok (.istore_n 3, 1) := by decide +kernel
theorem dX4_depth_42 : decode cX4_depth 42 = .ok (.iconst 0, 1) := by decide +kernel
theorem dX4_depth_43 : decode cX4_depth 43 = .ok (.istore 4, 2) := by decide +kernel
theorem dX4_depth_45 : decode cX4_depth 45 = .ok (.iload 4, 2) := by decide +kernel
theorem dX4_depth_47 : decode cX4_depth 47 = .ok (.aload_n 0, 1) := by decide +kernel
theorem dX4_depth_48 : decode cX4_depth 48 = .ok (.getfield 59, 3) := by decide +kernel
theorem dX4_depth_51 : decode cX4_depth 51 = .ok (.if_icmp .ge 40, 3) := by decide +kernel
theorem dX4_depth_54 : decode cX4_depth 54 = .ok (.aload_n 0, 1) := by decide +kernel
theorem dX4_depth_55 : decode cX4_depth 55 = .ok (.getfield 23, 3) := by decide +kernel
theorem dX4_depth_58 : decode cX4_depth 58 = .ok (.iload 4, 2) := by decide +kernel
theorem dX4_depth_60 : decode cX4_depth 60 = .ok (.iaload, 1) := by decide +kernel
theorem dX4_depth_61 : decode cX4_depth 61 = .ok (.iconst 4, 1) := by decide +kernel
theorem dX4_depth_62 : decode cX4_depth 62 = .ok (.if_icmp .eq 23, 3) := by decide +kernel
theorem dX4_depth_65 : decode cX4_depth 65 = .ok (.iload 4, 2) := by decide +kernel
theorem dX4_depth_67 : decode cX4_depth 67 = .ok (.aload_n 0, 1) := by decide +kernel
theorem dX4_depth_68 : decode cX4_depth 68 = .ok (.getfield 55, 3) := by decide +kernel
theorem dX4_depth_71 : decode cX4_depth 71 = .ok (.if_icmp .eq 14, 3) := by decide +kernel
theorem dX4_depth_74 : decode cX4_depth 74 = .ok (.iload_n 3, 1) := by decide +kernel
theorem dX4_depth_75 : decode cX4_depth 75 = .ok (.aload_n 0, 1) := by decide +kernel
theorem dX4_depth_76 : decode cX4_depth 76 = .ok (.iload 4, 2) := by decide +kernel
theorem dX4_depth_78 : decode cX4_depth 78 = .ok (.invokevirtual 108, 3) := by decide +kernel
theorem dX4_depth_81 : decode cX4_depth 81 = .ok (.invokestatic 190, 3) := by decide +kernel
theorem dX4_depth_84 : decode cX4_depth 84 = .ok (.istore_n 3, 1) := by decide +kernel
theorem dX4_depth_85 : decode cX4_depth 85 = .ok (.iinc 4 1, 3) := by decide +kernel
theorem dX4_depth_88 : decode cX4_depth 88 = .ok (.goto (-43), 3) := by decide +kernel
theorem dX4_depth_91 : decode cX4_depth 91 = .ok (.iload_n 3, 1) := by decide +kernel
theorem dX4_depth_92 : decode cX4_depth 92 = .ok (.ifCond .ge 7, 3) := by decide +kernel
theorem dX4_depth_95 : decode cX4_depth 95 = .ok (.iconst 0, 1) := by decide +kernel
theorem dX4_depth_96 : decode cX4_depth 96 = .ok (.goto 13, 3) := by decide +kernel
theorem dX4_depth_99 : decode cX4_depth 99 = .ok (.aload_n 0, 1) := by decide +kernel
theorem dX4_depth_100 : decode cX4_depth 100 = .ok (.getfield 48, 3) := by decide +kernel
theorem dX4_depth_103 : decode cX4_depth 103 = .ok (.iload_n 3, 1) := by decide +kernel
theorem dX4_depth_104 : decode cX4_depth 104 = .ok (.iconst 1, 1) := by decide +kernel
theorem dX4_depth_105 : decode cX4_depth 105 = .ok (.iadd, 1) := by decide +kernel
theorem dX4_depth_106 : decode cX4_depth 106 = .ok (.invokestatic 185, 3) := by decide +kernel
theorem dX4_depth_109 : decode cX4_depth 109 = .ok (.ireturn, 1) := by decide +kernel
theorem dX4_canBe_0 : decode cX4_canBe 0 = .ok (.aload_n 0, 1) := by decide +kernel
theorem dX4_canBe_1 : decode cX4_canBe 1 = .ok (.getfield 111, 3) := by decide +kernel
theorem dX4_canBe_4 : decode cX4_canBe 4 = .ok (.istore_n 3, 1) := by decide +kernel
theorem dX4_canBe_5 : decode cX4_canBe 5 = .ok (.aload_n 0, 1) := by decide +kernel
theorem dX4_canBe_6 : decode cX4_canBe 6 = .ok (.iload_n 1, 1) := by decide +kernel
theorem dX4_canBe_7 : decode cX4_canBe 7 = .ok (.invokevirtual 108, 3) := by decide +kernel
theorem dX4_canBe_10 : decode cX4_canBe 10 = .ok (.istore 4, 2) := by decide +kernel
theorem dX4_canBe_12 : decode cX4_canBe 12 = .ok (.iload 4, 2) := by decide +kernel
theorem dX4_canBe_14 : decode cX4_canBe 14 = .ok (.ifCond .le 22, 3) := by decide +kernel
theorem dX4_canBe_17 : decode cX4_canBe 17 = .ok (.iload_n 3, 1) := by decide +kernel
theorem dX4_canBe_18 : decode cX4_canBe 18 = .ok (.ifCond .eq 18, 3) := by decide +kernel
theorem dX4_canBe_21 : decode cX4_canBe 21 = .ok (.iload_n 3, 1) := by decide +kernel
theorem dX4_canBe_22 : decode cX4_canBe 22 = .ok (.iload_n 3, 1) := by decide +kernel
theorem dX4_canBe_23 : decode cX4_canBe 23 = .ok (.invokestatic 193, 3) := by decide +kernel
theorem dX4_canBe_26 : decode cX4_canBe 26 = .ok (.iconst (-1), 1) := by decide +kernel
theorem dX4_canBe_27 : decode cX4_canBe 27 = .ok (.ixor, 1) := by decide +kernel
theorem dX4_canBe_28 : decode cX4_canBe 28 = .ok (.iand, 1) := by decide +kernel
theorem dX4_canBe_29 : decode cX4_canBe 29 = .ok (.istore_n 3, 1) := by decide +kernel
theorem dX4_canBe_30 : decode cX4_canBe 30 = .ok (.iinc 4 (-1), 3) := by decide +kernel
theorem dX4_canBe_33 : decode cX4_canBe 33 = .ok (.goto (-21), 3) := by decide +kernel
theorem dX4_canBe_36 : decode cX4_canBe 36 = .ok (.iload_n 3, 1) := by decide +kernel
theorem dX4_canBe_37 : decode cX4_canBe 37 = .ok (.iload_n 2, 1) := by decide +kernel
theorem dX4_canBe_38 : decode cX4_canBe 38 = .ok (.ishr, 1) := by decide +kernel
theorem dX4_canBe_39 : decode cX4_canBe 39 = .ok (.iload_n 2, 1) := by decide +kernel
theorem dX4_canBe_40 : decode cX4_canBe 40 = .ok (.ishl, 1) := by decide +kernel
theorem dX4_canBe_41 : decode cX4_canBe 41 = .ok (.ireturn, 1) := by decide +kernel
theorem dX4_sleeps_0 : decode cX4_sleeps 0 = .ok (.aload_n 0, 1) := by decide +kernel
theorem dX4_sleeps_1 : decode cX4_sleeps 1 = .ok (.getfield 23, 3) := by decide +kernel
theorem dX4_sleeps_4 : decode cX4_sleeps 4 = .ok (.iload_n 1, 1) := by decide +kernel
theorem dX4_sleeps_5 : decode cX4_sleeps 5 = .ok (.iaload, 1) := by decide +kernel
theorem dX4_sleeps_6 : decode cX4_sleeps 6 = .ok (.iconst 1, 1) := by decide +kernel
theorem dX4_sleeps_7 : decode cX4_sleeps 7 = .ok (.if_icmp .eq 13, 3) := by decide +kernel
theorem dX4_sleeps_10 : decode cX4_sleeps 10 = .ok (.aload_n 0, 1) := by decide +kernel
theorem dX4_sleeps_11 : decode cX4_sleeps 11 = .ok (.getfield 23, 3) := by decide +kernel
theorem dX4_sleeps_14 : decode cX4_sleeps 14 = .ok (.iload_n 1, 1) := by decide +kernel
theorem dX4_sleeps_15 : decode cX4_sleeps 15 = .ok (.iaload, 1) := by decide +kernel
theorem dX4_sleeps_16 : decode cX4_sleeps 16 = .ok (.iconst 3, 1) := by decide +kernel
theorem dX4_sleeps_17 : decode cX4_sleeps 17 = .ok (.if_icmp .ne 22, 3) := by decide +kernel
theorem dX4_sleeps_20 : decode cX4_sleeps 20 = .ok (.iload_n 2, 1) := by decide +kernel
theorem dX4_sleeps_21 : decode cX4_sleeps 21 = .ok (.iconst 2, 1) := by decide +kernel
theorem dX4_sleeps_22 : decode cX4_sleeps 22 = .ok (.aload_n 0, 1) := by decide +kernel
theorem dX4_sleeps_23 : decode cX4_sleeps 23 = .ok (.getfield 26, 3) := by decide +kernel
theorem dX4_sleeps_26 : decode cX4_sleeps 26 = .ok (.iload_n 1, 1) := by decide +kernel
theorem dX4_sleeps_27 : decode cX4_sleeps 27 = .ok (.iaload, 1) := by decide +kernel
theorem dX4_sleeps_28 : decode cX4_sleeps 28 = .ok (.iconst 3, 1) := by decide +kernel
theorem dX4_sleeps_29 : decode cX4_sleeps 29 = .ok (.irem, 1) := by decide +kernel
theorem dX4_sleeps_30 : decode cX4_sleeps 30 = .ok (.iadd, 1) := by decide +kernel
theorem dX4_sleeps_31 : decode cX4_sleeps 31 = .ok (.irem, 1) := by decide +kernel
theorem dX4_sleeps_32 : decode cX4_sleeps 32 = .ok (.ifCond .ne 7, 3) := by decide +kernel
theorem dX4_sleeps_35 : decode cX4_sleeps 35 = .ok (.iconst 1, 1) := by decide +kernel
theorem dX4_sleeps_36 : decode cX4_sleeps 36 = .ok (.goto 4, 3) := by decide +kernel
theorem dX4_sleeps_39 : decode cX4_sleeps 39 = .ok (.iconst 0, 1) := by decide +kernel
theorem dX4_sleeps_40 : decode cX4_sleeps 40 = .ok (.ireturn, 1) := by decide +kernel
theorem dX4_expectsIt_0 : decode cX4_expectsIt 0 = .ok (.aload_n 0, 1) := by decide +kernel
theorem dX4_expectsIt_1 : decode cX4_expectsIt 1 = .ok (.getfield 23, 3) := by decide +kernel
theorem dX4_expectsIt_4 : decode cX4_expectsIt 4 = .ok (.iload_n 1, 1) := by decide +kernel
theorem dX4_expectsIt_5 : decode cX4_expectsIt 5 = .ok (.iaload, 1) := by decide +kernel
theorem dX4_expectsIt_6 : decode cX4_expectsIt 6 = .ok (.iconst 2, 1) := by decide +kernel
theorem dX4_expectsIt_7 : decode cX4_expectsIt 7 = .ok (.if_icmp .eq 13, 3) := by decide +kernel
theorem dX4_expectsIt_10 : decode cX4_expectsIt 10 = .ok (.aload_n 0, 1) := by decide +kernel
theorem dX4_expectsIt_11 : decode cX4_expectsIt 11 = .ok (.getfield 23, 3) := by decide +kernel
theorem dX4_expectsIt_14 : decode cX4_expectsIt 14 = .ok (.iload_n 1, 1) := by decide +kernel
theorem dX4_expectsIt_15 : decode cX4_expectsIt 15 = .ok (.iaload, 1) := by decide +kernel
theorem dX4_expectsIt_16 : decode cX4_expectsIt 16 = .ok (.iconst 5, 1) := by decide +kernel
theorem dX4_expectsIt_17 : decode cX4_expectsIt 17 = .ok (.if_icmp .ne 55, 3) := by decide +kernel
theorem dX4_expectsIt_20 : decode cX4_expectsIt 20 = .ok (.aload_n 0, 1) := by decide +kernel
theorem dX4_expectsIt_21 : decode cX4_expectsIt 21 = .ok (.getfield 111, 3) := by decide +kernel
theorem dX4_expectsIt_24 : decode cX4_expectsIt 24 = .ok (.iload_n 2, 1) := by decide +kernel
theorem dX4_expectsIt_25 : decode cX4_expectsIt 25 = .ok (.invokestatic 121, 3) := by decide +kernel
theorem dX4_expectsIt_28 : decode cX4_expectsIt 28 = .ok (.ifCond .eq 44, 3) := by decide +kernel
theorem dX4_expectsIt_31 : decode cX4_expectsIt 31 = .ok (.aload_n 0, 1) := by decide +kernel
theorem dX4_expectsIt_32 : decode cX4_expectsIt 32 = .ok (.getfield 20, 3) := by decide +kernel
theorem dX4_expectsIt_35 : decode cX4_expectsIt 35 = .ok (.iload_n 2, 1) := by decide +kernel
theorem dX4_expectsIt_36 : decode cX4_expectsIt 36 = .ok (.iaload, 1) := by decide +kernel
theorem dX4_expectsIt_37 : decode cX4_expectsIt 37 = .ok (.ifCond .le 35, 3) := by decide +kernel
theorem dX4_expectsIt_40 : decode cX4_expectsIt 40 = .ok (.bipush 10, 2) := by decide +kernel
theorem dX4_expectsIt_42 : decode cX4_expectsIt 42 = .ok (.aload_n 0, 1) := by decide +kernel
theorem dX4_expectsIt_43 : decode cX4_expectsIt 43 = .ok (.getfield 20, 3) := by decide +kernel
theorem dX4_expectsIt_46 : decode cX4_expectsIt 46 = .ok (.iload_n 2, 1) := by decide +kernel
theorem dX4_expectsIt_47 : decode cX4_expectsIt 47 = .ok (.iaload, 1) := by decide +kernel
theorem dX4_expectsIt_48 : decode cX4_expectsIt 48 = .ok (.imul, 1) := by decide +kernel
theorem dX4_expectsIt_49 : decode cX4_expectsIt 49 = .ok (.aload_n 0, 1) := by decide +kernel
theorem dX4_expectsIt_50 : decode cX4_expectsIt 50 = .ok (.getfield 26, 3) := by decide +kernel
theorem dX4_expectsIt_53 : decode cX4_expectsIt 53 = .ok (.iload_n 1, 1) := by decide +kernel
theorem dX4_expectsIt_54 : decode cX4_expectsIt 54 = .ok (.iaload, 1) := by decide +kernel
theorem dX4_expectsIt_55 : decode cX4_expectsIt 55 = .ok (.aload_n 0, 1) := by decide +kernel
theorem dX4_expectsIt_56 : decode cX4_expectsIt 56 = .ok (.aload_n 0, 1) := by decide +kernel
theorem dX4_expectsIt_57 : decode cX4_expectsIt 57 = .ok (.iload_n 2, 1) := by decide +kernel
theorem dX4_expectsIt_58 : decode cX4_expectsIt 58 = .ok (.invokevirtual 196, 3) := by decide +kernel
theorem dX4_expectsIt_61 : decode cX4_expectsIt 61 = .ok (.invokevirtual 199, 3) := by decide +kernel
theorem dX4_expectsIt_64 : decode cX4_expectsIt 64 = .ok (.imul, 1) := by decide +kernel
theorem dX4_expectsIt_65 : decode cX4_expectsIt 65 = .ok (.if_icmp .lt 7, 3) := by decide +kernel
theorem dX4_expectsIt_68 : decode cX4_expectsIt 68 = .ok (.iconst 1, 1) := by decide +kernel
theorem dX4_expectsIt_69 : decode cX4_expectsIt 69 = .ok (.goto 4, 3) := by decide +kernel
theorem dX4_expectsIt_72 : decode cX4_expectsIt 72 = .ok (.iconst 0, 1) := by decide +kernel
theorem dX4_expectsIt_73 : decode cX4_expectsIt 73 = .ok (.istore_n 3, 1) := by decide +kernel
theorem dX4_expectsIt_74 : decode cX4_expectsIt 74 = .ok (.aload_n 0, 1) := by decide +kernel
theorem dX4_expectsIt_75 : decode cX4_expectsIt 75 = .ok (.getfield 23, 3) := by decide +kernel
theorem dX4_expectsIt_78 : decode cX4_expectsIt 78 = .ok (.iload_n 1, 1) := by decide +kernel
theorem dX4_expectsIt_79 : decode cX4_expectsIt 79 = .ok (.iaload, 1) := by decide +kernel
theorem dX4_expectsIt_80 : decode cX4_expectsIt 80 = .ok (.iconst 2, 1) := by decide +kernel
theorem dX4_expectsIt_81 : decode cX4_expectsIt 81 = .ok (.if_icmp .ne 5, 3) := by decide +kernel
theorem dX4_expectsIt_84 : decode cX4_expectsIt 84 = .ok (.iload_n 3, 1) := by decide +kernel
theorem dX4_expectsIt_85 : decode cX4_expectsIt 85 = .ok (.ireturn, 1) := by decide +kernel
theorem dX4_expectsIt_86 : decode cX4_expectsIt 86 = .ok (.iload_n 3, 1) := by decide +kernel
theorem dX4_expectsIt_87 : decode cX4_expectsIt 87 = .ok (.ifCond .ne 24, 3) := by decide +kernel
theorem dX4_expectsIt_90 : decode cX4_expectsIt 90 = .ok (.aload_n 0, 1) := by decide +kernel
theorem dX4_expectsIt_91 : decode cX4_expectsIt 91 = .ok (.iload_n 1, 1) := by decide +kernel
theorem dX4_expectsIt_92 : decode cX4_expectsIt 92 = .ok (.iload_n 2, 1) := by decide +kernel
theorem dX4_expectsIt_93 : decode cX4_expectsIt 93 = .ok (.invokevirtual 202, 3) := by decide +kernel
theorem dX4_expectsIt_96 : decode cX4_expectsIt 96 = .ok (.iconst 1, 1) := by decide +kernel
theorem dX4_expectsIt_97 : decode cX4_expectsIt 97 = .ok (.iload_n 2, 1) := by decide +kernel
theorem dX4_expectsIt_98 : decode cX4_expectsIt 98 = .ok (.ishl, 1) := by decide +kernel
theorem dX4_expectsIt_99 : decode cX4_expectsIt 99 = .ok (.if_icmp .ne 16, 3) := by decide +kernel
theorem dX4_expectsIt_102 : decode cX4_expectsIt 102 = .ok (.aload_n 0, 1) := by decide +kernel
theorem dX4_expectsIt_103 : decode cX4_expectsIt 103 = .ok (.iload_n 1, 1) := by decide +kernel
theorem dX4_expectsIt_104 : decode cX4_expectsIt 104 = .ok (.iload_n 2, 1) := by decide +kernel
theorem dX4_expectsIt_105 : decode cX4_expectsIt 105 = .ok (.invokevirtual 90, 3) := by decide +kernel
theorem dX4_expectsIt_108 : decode cX4_expectsIt 108 = .ok (.ifCond .ne 7, 3) := by decide +kernel
theorem dX4_expectsIt_111 : decode cX4_expectsIt 111 = .ok (.iconst 1, 1) := by decide +kernel
theorem dX4_expectsIt_112 : decode cX4_expectsIt 112 = .ok (.goto 4, 3) := by decide +kernel
theorem dX4_expectsIt_115 : decode cX4_expectsIt 115 = .ok (.iconst 0, 1) := by decide +kernel
theorem dX4_expectsIt_116 : decode cX4_expectsIt 116 = .ok (.ireturn, 1) := by decide +kernel
theorem dX4_expected_0 : decode cX4_expected 0 = .ok (.iconst 0, 1) := by decide +kernel
theorem dX4_expected_1 : decode cX4_expected 1 = .ok (.istore_n 2, 1) := by decide +kernel
theorem dX4_expected_2 : decode cX4_expected 2 = .ok (.iconst 0, 1) := by decide +kernel
theorem dX4_expected_3 : decode cX4_expected 3 = .ok (.istore_n 3, 1) := by decide +kernel
theorem dX4_expected_4 : decode cX4_expected 4 = .ok (.iload_n 3, 1) := by decide +kernel
theorem dX4_expected_5 : decode cX4_expected 5 = .ok (.aload_n 0, 1) := by decide +kernel
theorem dX4_expected_6 : decode cX4_expected 6 = .ok (.getfield 66, 3) := by decide +kernel
theorem dX4_expected_9 : decode cX4_expected 9 = .ok (.if_icmp .ge 24, 3) := by decide +kernel
theorem dX4_expected_12 : decode cX4_expected 12 = .ok (.aload_n 0, 1) := by decide +kernel
theorem dX4_expected_13 : decode cX4_expected 13 = .ok (.iload_n 1, 1) := by decide +kernel
theorem dX4_expected_14 : decode cX4_expected 14 = .ok (.iload_n 3, 1) := by decide +kernel
theorem dX4_expected_15 : decode cX4_expected 15 = .ok (.invokevirtual 105, 3) := by decide +kernel
theorem dX4_expected_18 : decode cX4_expected 18 = .ok (.ifCond .eq 9, 3) := by decide +kernel
theorem dX4_expected_21 : decode cX4_expected 21 = .ok (.iload_n 2, 1) := by decide +kernel
theorem dX4_expected_22 : decode cX4_expected 22 = .ok (.iconst 1, 1) := by decide +kernel
theorem dX4_expected_23 : decode cX4_expected 23 = .ok (.iload_n 3, 1) := by decide +kernel
theorem dX4_expected_24 : decode cX4_expected 24 = .ok (.ishl, 1) := by decide +kernel
theorem dX4_expected_25 : decode cX4_expected 25 = .ok (.ior, 1) := by decide +kernel
theorem dX4_expected_26 : decode cX4_expected 26 = .ok (.istore_n 2, 1) := by decide +kernel
theorem dX4_expected_27 : decode cX4_expected 27 = .ok (.iinc 3 1, 3) := by decide +kernel
theorem dX4_expected_30 : decode cX4_expected 30 = .ok (.goto (-26), 3) := by decide +kernel
theorem dX4_expected_33 : decode cX4_expected 33 = .ok (.iload_n 2, 1) := by decide +kernel
theorem dX4_expected_34 : decode cX4_expected 34 = .ok (.ireturn, 1) := by decide +kernel
theorem dX4_whoExpects_0 : decode cX4_whoExpects 0 = .ok (.iconst 0, 1) := by decide +kernel
theorem dX4_whoExpects_1 : decode cX4_whoExpects 1 = .ok (.istore_n 2, 1) := by decide +kernel
theorem dX4_whoExpects_2 : decode cX4_whoExpects 2 = .ok (.iconst 0, 1) := by decide +kernel
theorem dX4_whoExpects_3 : decode cX4_whoExpects 3 = .ok (.istore_n 3, 1) := by decide +kernel
theorem dX4_whoExpects_4 : decode cX4_whoExpects 4 = .ok (.iload_n 3, 1) := by decide +kernel
theorem dX4_whoExpects_5 : decode cX4_whoExpects 5 = .ok (.aload_n 0, 1) := by decide +kernel
theorem dX4_whoExpects_6 : decode cX4_whoExpects 6 = .ok (.getfield 59, 3) := by decide +kernel
theorem dX4_whoExpects_9 : decode cX4_whoExpects 9 = .ok (.if_icmp .ge 32, 3) := by decide +kernel
theorem dX4_whoExpects_12 : decode cX4_whoExpects 12 = .ok (.iload_n 3, 1) := by decide +kernel
theorem dX4_whoExpects_13 : decode cX4_whoExpects 13 = .ok (.aload_n 0, 1) := by decide +kernel
theorem dX4_whoExpects_14 : decode cX4_whoExpects 14 = .ok (.getfield 55, 3) := by decide +kernel
theorem dX4_whoExpects_17 : decode cX4_whoExpects 17 = .ok (.if_icmp .eq 18, 3) := by decide +kernel
theorem dX4_whoExpects_20 : decode cX4_whoExpects 20 = .ok (.aload_n 0, 1) := by decide +kernel
theorem dX4_whoExpects_21 : decode cX4_whoExpects 21 = .ok (.iload_n 3, 1) := by decide +kernel
theorem dX4_whoExpects_22 : decode cX4_whoExpects 22 = .ok (.iload_n 1, 1) := by decide +kernel
theorem dX4_whoExpects_23 : decode cX4_whoExpects 23 = .ok (.invokevirtual 105, 3) := by decide +kernel
theorem dX4_whoExpects_26 : decode cX4_whoExpects 26 = .ok (.ifCond .eq 9, 3) := by decide +kernel
theorem dX4_whoExpects_29 : decode cX4_whoExpects 29 = .ok (.iload_n 2, 1) := by decide +kernel
theorem dX4_whoExpects_30 : decode cX4_whoExpects 30 = .ok (.iconst 1, 1) := by decide +kernel
theorem dX4_whoExpects_31 : decode cX4_whoExpects 31 = .ok (.iload_n 3, 1) := by decide +kernel
theorem dX4_whoExpects_32 : decode cX4_whoExpects 32 = .ok (.ishl, 1) := by decide +kernel
theorem dX4_whoExpects_33 : decode cX4_whoExpects 33 = .ok (.ior, 1) := by decide +kernel
theorem dX4_whoExpects_34 : decode cX4_whoExpects 34 = .ok (.istore_n 2, 1) := by decide +kernel
theorem dX4_whoExpects_35 : decode cX4_whoExpects 35 = .ok (.iinc 3 1, 3) := by decide +kernel
theorem dX4_whoExpects_38 : decode cX4_whoExpects 38 = .ok (.goto (-34), 3) := by decide +kernel
theorem dX4_whoExpects_41 : decode cX4_whoExpects 41 = .ok (.iload_n 2, 1) := by decide +kernel
theorem dX4_whoExpects_42 : decode cX4_whoExpects 42 = .ok (.ireturn, 1) := by decide +kernel
theorem dX4_bySurprise_0 : decode cX4_bySurprise 0 = .ok (.iconst 0, 1) := by decide +kernel
theorem dX4_bySurprise_1 : decode cX4_bySurprise 1 = .ok (.istore_n 1, 1) := by decide +kernel
theorem dX4_bySurprise_2 : decode cX4_bySurprise 2 = .ok (.iconst 0, 1) := by decide +kernel
theorem dX4_bySurprise_3 : decode cX4_bySurprise 3 = .ok (.istore_n 2, 1) := by decide +kernel
theorem dX4_bySurprise_4 : decode cX4_bySurprise 4 = .ok (.iload_n 2, 1) := by decide +kernel
theorem dX4_bySurprise_5 : decode cX4_bySurprise 5 = .ok (.aload_n 0, 1) := by decide +kernel
theorem dX4_bySurprise_6 : decode cX4_bySurprise 6 = .ok (.getfield 66, 3) := by decide +kernel
theorem dX4_bySurprise_9 : decode cX4_bySurprise 9 = .ok (.if_icmp .ge 34, 3) := by decide +kernel
theorem dX4_bySurprise_12 : decode cX4_bySurprise 12 = .ok (.aload_n 0, 1) := by decide +kernel
theorem dX4_bySurprise_13 : decode cX4_bySurprise 13 = .ok (.getfield 111, 3) := by decide +kernel
theorem dX4_bySurprise_16 : decode cX4_bySurprise 16 = .ok (.iload_n 2, 1) := by decide +kernel
theorem dX4_bySurprise_17 : decode cX4_bySurprise 17 = .ok (.invokestatic 121, 3) := by decide +kernel
theorem dX4_bySurprise_20 : decode cX4_bySurprise 20 = .ok (.ifCond .eq 17, 3) := by decide +kernel
theorem dX4_bySurprise_23 : decode cX4_bySurprise 23 = .ok (.aload_n 0, 1) := by decide +kernel
theorem dX4_bySurprise_24 : decode cX4_bySurprise 24 = .ok (.iload_n 2, 1) := by decide +kernel
theorem dX4_bySurprise_25 : decode cX4_bySurprise 25 = .ok (.invokevirtual 205, 3) := by decide +kernel
theorem dX4_bySurprise_28 : decode cX4_bySurprise 28 = .ok (.ifCond .ne 9, 3) := by decide +kernel
theorem dX4_bySurprise_31 : decode cX4_bySurprise 31 = .ok (.iload_n 1, 1) := by decide +kernel
theorem dX4_bySurprise_32 : decode cX4_bySurprise 32 = .ok (.iconst 1, 1) := by decide +kernel
theorem dX4_bySurprise_33 : decode cX4_bySurprise 33 = .ok (.iload_n 2, 1) := by decide +kernel
theorem dX4_bySurprise_34 : decode cX4_bySurprise 34 = .ok (.ishl, 1) := by decide +kernel
theorem dX4_bySurprise_35 : decode cX4_bySurprise 35 = .ok (.ior, 1) := by decide +kernel
theorem dX4_bySurprise_36 : decode cX4_bySurprise 36 = .ok (.istore_n 1, 1) := by decide +kernel
theorem dX4_bySurprise_37 : decode cX4_bySurprise 37 = .ok (.iinc 2 1, 3) := by decide +kernel
theorem dX4_bySurprise_40 : decode cX4_bySurprise 40 = .ok (.goto (-36), 3) := by decide +kernel
theorem dX4_bySurprise_43 : decode cX4_bySurprise 43 = .ok (.iload_n 1, 1) := by decide +kernel
theorem dX4_bySurprise_44 : decode cX4_bySurprise 44 = .ok (.ireturn, 1) := by decide +kernel
theorem dX4_firstOf_0 : decode cX4_firstOf 0 = .ok (.aload_n 0, 1) := by decide +kernel
theorem dX4_firstOf_1 : decode cX4_firstOf 1 = .ok (.iload_n 1, 1) := by decide +kernel
theorem dX4_firstOf_2 : decode cX4_firstOf 2 = .ok (.invokevirtual 93, 3) := by decide +kernel
theorem dX4_firstOf_5 : decode cX4_firstOf 5 = .ok (.istore_n 2, 1) := by decide +kernel
theorem dX4_firstOf_6 : decode cX4_firstOf 6 = .ok (.iload_n 2, 1) := by decide +kernel
theorem dX4_firstOf_7 : decode cX4_firstOf 7 = .ok (.ifCond .ne 7, 3) := by decide +kernel
theorem dX4_firstOf_10 : decode cX4_firstOf 10 = .ok (.iconst (-1), 1) := by decide +kernel
theorem dX4_firstOf_11 : decode cX4_firstOf 11 = .ok (.goto 7, 3) := by decide +kernel
theorem dX4_firstOf_14 : decode cX4_firstOf 14 = .ok (.iload_n 2, 1) := by decide +kernel
theorem dX4_firstOf_15 : decode cX4_firstOf 15 = .ok (.invokestatic 208, 3) := by decide +kernel
theorem dX4_firstOf_18 : decode cX4_firstOf 18 = .ok (.ireturn, 1) := by decide +kernel
theorem dX4_lastOf_0 : decode cX4_lastOf 0 = .ok (.iload_n 0, 1) := by decide +kernel
theorem dX4_lastOf_1 : decode cX4_lastOf 1 = .ok (.ifCond .ne 7, 3) := by decide +kernel
theorem dX4_lastOf_4 : decode cX4_lastOf 4 = .ok (.iconst (-1), 1) := by decide +kernel
theorem dX4_lastOf_5 : decode cX4_lastOf 5 = .ok (.goto 10, 3) := by decide +kernel
theorem dX4_lastOf_8 : decode cX4_lastOf 8 = .ok (.bipush 31, 2) := by decide +kernel
theorem dX4_lastOf_10 : decode cX4_lastOf 10 = .ok (.iload_n 0, 1) := by decide +kernel
theorem dX4_lastOf_11 : decode cX4_lastOf 11 = .ok (.invokestatic 211, 3) := by decide +kernel
theorem dX4_lastOf_14 : decode cX4_lastOf 14 = .ok (.isub, 1) := by decide +kernel
theorem dX4_lastOf_15 : decode cX4_lastOf 15 = .ok (.ireturn, 1) := by decide +kernel
theorem dX4_lastAllowed_0 : decode cX4_lastAllowed 0 = .ok (.aload_n 0, 1) := by decide +kernel
theorem dX4_lastAllowed_1 : decode cX4_lastAllowed 1 = .ok (.getfield 111, 3) := by decide +kernel
theorem dX4_lastAllowed_4 : decode cX4_lastAllowed 4 = .ok (.invokestatic 214, 3) := by decide +kernel
theorem dX4_lastAllowed_7 : decode cX4_lastAllowed 7 = .ok (.ireturn, 1) := by decide +kernel
theorem dX4_personOf_0 : decode cX4_personOf 0 = .ok (.aload_n 0, 1) := by decide +kernel
theorem dX4_personOf_1 : decode cX4_personOf 1 = .ok (.iload_n 1, 1) := by decide +kernel
theorem dX4_personOf_2 : decode cX4_personOf 2 = .ok (.invokevirtual 80, 3) := by decide +kernel
theorem dX4_personOf_5 : decode cX4_personOf 5 = .ok (.ifCond .eq 12, 3) := by decide +kernel
theorem dX4_personOf_8 : decode cX4_personOf 8 = .ok (.iload_n 2, 1) := by decide +kernel
theorem dX4_personOf_9 : decode cX4_personOf 9 = .ok (.iconst 0, 1) := by decide +kernel
theorem dX4_personOf_10 : decode cX4_personOf 10 = .ok (.iconst 3, 1) := by decide +kernel
theorem dX4_personOf_11 : decode cX4_personOf 11 = .ok (.invokestatic 62, 3) := by decide +kernel
theorem dX4_personOf_14 : decode cX4_personOf 14 = .ok (.ifCond .ne 10, 3) := by decide +kernel
theorem dX4_personOf_17 : decode cX4_personOf 17 = .ok (.aload_n 0, 1) := by decide +kernel
theorem dX4_personOf_18 : decode cX4_personOf 18 = .ok (.bipush (-2), 2) := by decide +kernel
theorem dX4_personOf_20 : decode cX4_personOf 20 = .ok (.invokevirtual 69, 3) := by decide +kernel
theorem dX4_personOf_23 : decode cX4_personOf 23 = .ok (.ireturn, 1) := by decide +kernel
theorem dX4_personOf_24 : decode cX4_personOf 24 = .ok (.iload_n 2, 1) := by decide +kernel
theorem dX4_personOf_25 : decode cX4_personOf 25 = .ok (.ifCond .ne 12, 3) := by decide +kernel
theorem dX4_personOf_28 : decode cX4_personOf 28 = .ok (.aload_n 0, 1) := by decide +kernel
theorem dX4_personOf_29 : decode cX4_personOf 29 = .ok (.getfield 23, 3) := by decide +kernel
theorem dX4_personOf_32 : decode cX4_personOf 32 = .ok (.iload_n 1, 1) := by decide +kernel
theorem dX4_personOf_33 : decode cX4_personOf 33 = .ok (.iaload, 1) := by decide +kernel
theorem dX4_personOf_34 : decode cX4_personOf 34 = .ok (.goto 35, 3) := by decide +kernel
theorem dX4_personOf_37 : decode cX4_personOf 37 = .ok (.iload_n 2, 1) := by decide +kernel
theorem dX4_personOf_38 : decode cX4_personOf 38 = .ok (.iconst 1, 1) := by decide +kernel
theorem dX4_personOf_39 : decode cX4_personOf 39 = .ok (.if_icmp .ne 12, 3) := by decide +kernel
theorem dX4_personOf_42 : decode cX4_personOf 42 = .ok (.aload_n 0, 1) := by decide +kernel
theorem dX4_personOf_43 : decode cX4_personOf 43 = .ok (.getfield 26, 3) := by decide +kernel
theorem dX4_personOf_46 : decode cX4_personOf 46 = .ok (.iload_n 1, 1) := by decide +kernel
theorem dX4_personOf_47 : decode cX4_personOf 47 = .ok (.iaload, 1) := by decide +kernel
theorem dX4_personOf_48 : decode cX4_personOf 48 = .ok (.goto 21, 3) := by decide +kernel
theorem dX4_personOf_51 : decode cX4_personOf 51 = .ok (.iload_n 2, 1) := by decide +kernel
theorem dX4_personOf_52 : decode cX4_personOf 52 = .ok (.iconst 2, 1) := by decide +kernel
theorem dX4_personOf_53 : decode cX4_personOf 53 = .ok (.if_icmp .ne 11, 3) := by decide +kernel
theorem dX4_personOf_56 : decode cX4_personOf 56 = .ok (.aload_n 0, 1) := by decide +kernel
theorem dX4_personOf_57 : decode cX4_personOf 57 = .ok (.iload_n 1, 1) := by decide +kernel
theorem dX4_personOf_58 : decode cX4_personOf 58 = .ok (.invokevirtual 108, 3) := by decide +kernel
theorem dX4_personOf_61 : decode cX4_personOf 61 = .ok (.goto 8, 3) := by decide +kernel
theorem dX4_personOf_64 : decode cX4_personOf 64 = .ok (.aload_n 0, 1) := by decide +kernel
theorem dX4_personOf_65 : decode cX4_personOf 65 = .ok (.iload_n 1, 1) := by decide +kernel
theorem dX4_personOf_66 : decode cX4_personOf 66 = .ok (.invokevirtual 93, 3) := by decide +kernel
theorem dX4_personOf_69 : decode cX4_personOf 69 = .ok (.ireturn, 1) := by decide +kernel
theorem dX4_morningOf_0 : decode cX4_morningOf 0 = .ok (.aload_n 0, 1) := by decide +kernel
theorem dX4_morningOf_1 : decode cX4_morningOf 1 = .ok (.iload_n 1, 1) := by decide +kernel
theorem dX4_morningOf_2 : decode cX4_morningOf 2 = .ok (.invokevirtual 118, 3) := by decide +kernel
theorem dX4_morningOf_5 : decode cX4_morningOf 5 = .ok (.ifCond .eq 12, 3) := by decide +kernel
theorem dX4_morningOf_8 : decode cX4_morningOf 8 = .ok (.iload_n 2, 1) := by decide +kernel
theorem dX4_morningOf_9 : decode cX4_morningOf 9 = .ok (.iconst 0, 1) := by decide +kernel
theorem dX4_morningOf_10 : decode cX4_morningOf 10 = .ok (.iconst 3, 1) := by decide +kernel
theorem dX4_morningOf_11 : decode cX4_morningOf 11 = .ok (.invokestatic 62, 3) := by decide +kernel
theorem dX4_morningOf_14 : decode cX4_morningOf 14 = .ok (.ifCond .ne 10, 3) := by decide +kernel
theorem dX4_morningOf_17 : decode cX4_morningOf 17 = .ok (.aload_n 0, 1) := by decide +kernel
theorem dX4_morningOf_18 : decode cX4_morningOf 18 = .ok (.bipush (-2), 2) := by decide +kernel
theorem dX4_morningOf_20 : decode cX4_morningOf 20 = .ok (.invokevirtual 69, 3) := by decide +kernel
theorem dX4_morningOf_23 : decode cX4_morningOf 23 = .ok (.ireturn, 1) := by decide +kernel
theorem dX4_morningOf_24 : decode cX4_morningOf 24 = .ok (.iload_n 2, 1) := by decide +kernel
theorem dX4_morningOf_25 : decode cX4_morningOf 25 = .ok (.ifCond .ne 14, 3) := by decide +kernel
theorem dX4_morningOf_28 : decode cX4_morningOf 28 = .ok (.aload_n 0, 1) := by decide +kernel
theorem dX4_morningOf_29 : decode cX4_morningOf 29 = .ok (.getfield 111, 3) := by decide +kernel
theorem dX4_morningOf_32 : decode cX4_morningOf 32 = .ok (.iload_n 1, 1) := by decide +kernel
theorem dX4_morningOf_33 : decode cX4_morningOf 33 = .ok (.ishr, 1) := by decide +kernel
theorem dX4_morningOf_34 : decode cX4_morningOf 34 = .ok (.iconst 1, 1) := by decide +kernel
theorem dX4_morningOf_35 : decode cX4_morningOf 35 = .ok (.iand, 1) := by decide +kernel
theorem dX4_morningOf_36 : decode cX4_morningOf 36 = .ok (.goto 39, 3) := by decide +kernel
theorem dX4_morningOf_39 : decode cX4_morningOf 39 = .ok (.iload_n 2, 1) := by decide +kernel
theorem dX4_morningOf_40 : decode cX4_morningOf 40 = .ok (.iconst 1, 1) := by decide +kernel
theorem dX4_morningOf_41 : decode cX4_morningOf 41 = .ok (.if_icmp .ne 12, 3) := by decide +kernel
theorem dX4_morningOf_44 : decode cX4_morningOf 44 = .ok (.aload_n 0, 1) := by decide +kernel
theorem dX4_morningOf_45 : decode cX4_morningOf 45 = .ok (.getfield 20, 3) := by decide +kernel
theorem dX4_morningOf_48 : decode cX4_morningOf 48 = .ok (.iload_n 1, 1) := by decide +kernel
theorem dX4_morningOf_49 : decode cX4_morningOf 49 = .ok (.iaload, 1) := by decide +kernel
theorem dX4_morningOf_50 : decode cX4_morningOf 50 = .ok (.goto 25, 3) := by decide +kernel
theorem dX4_morningOf_53 : decode cX4_morningOf 53 = .ok (.iload_n 2, 1) := by decide +kernel
theorem dX4_morningOf_54 : decode cX4_morningOf 54 = .ok (.iconst 2, 1) := by decide +kernel
theorem dX4_morningOf_55 : decode cX4_morningOf 55 = .ok (.if_icmp .ne 11, 3) := by decide +kernel
theorem dX4_morningOf_58 : decode cX4_morningOf 58 = .ok (.aload_n 0, 1) := by decide +kernel
theorem dX4_morningOf_59 : decode cX4_morningOf 59 = .ok (.iload_n 1, 1) := by decide +kernel
theorem dX4_morningOf_60 : decode cX4_morningOf 60 = .ok (.invokevirtual 196, 3) := by decide +kernel
theorem dX4_morningOf_63 : decode cX4_morningOf 63 = .ok (.goto 12, 3) := by decide +kernel
theorem dX4_morningOf_66 : decode cX4_morningOf 66 = .ok (.aload_n 0, 1) := by decide +kernel
theorem dX4_morningOf_67 : decode cX4_morningOf 67 = .ok (.aload_n 0, 1) := by decide +kernel
theorem dX4_morningOf_68 : decode cX4_morningOf 68 = .ok (.iload_n 1, 1) := by decide +kernel
theorem dX4_morningOf_69 : decode cX4_morningOf 69 = .ok (.invokevirtual 196, 3) := by decide +kernel
theorem dX4_morningOf_72 : decode cX4_morningOf 72 = .ok (.invokevirtual 199, 3) := by decide +kernel
theorem dX4_morningOf_75 : decode cX4_morningOf 75 = .ok (.ireturn, 1) := by decide +kernel
theorem dX4_can_0 : decode cX4_can 0 = .ok (.aload_n 0, 1) := by decide +kernel
theorem dX4_can_1 : decode cX4_can 1 = .ok (.iload_n 1, 1) := by decide +kernel
theorem dX4_can_2 : decode cX4_can 2 = .ok (.invokevirtual 80, 3) := by decide +kernel
theorem dX4_can_5 : decode cX4_can 5 = .ok (.ifCond .eq 20, 3) := by decide +kernel
theorem dX4_can_8 : decode cX4_can 8 = .ok (.aload_n 0, 1) := by decide +kernel
theorem dX4_can_9 : decode cX4_can 9 = .ok (.iload_n 2, 1) := by decide +kernel
theorem dX4_can_10 : decode cX4_can 10 = .ok (.invokevirtual 118, 3) := by decide +kernel
theorem dX4_can_13 : decode cX4_can 13 = .ok (.ifCond .eq 12, 3) := by decide +kernel
theorem dX4_can_16 : decode cX4_can 16 = .ok (.aload_n 0, 1) := by decide +kernel
theorem dX4_can_17 : decode cX4_can 17 = .ok (.iload_n 1, 1) := by decide +kernel
theorem dX4_can_18 : decode cX4_can 18 = .ok (.iload_n 2, 1) := by decide +kernel
theorem dX4_can_19 : decode cX4_can 19 = .ok (.invokevirtual 202, 3) := by decide +kernel
theorem dX4_can_22 : decode cX4_can 22 = .ok (.goto 9, 3) := by decide +kernel
theorem dX4_can_25 : decode cX4_can 25 = .ok (.aload_n 0, 1) := by decide +kernel
theorem dX4_can_26 : decode cX4_can 26 = .ok (.bipush (-2), 2) := by decide +kernel
theorem dX4_can_28 : decode cX4_can 28 = .ok (.invokevirtual 69, 3) := by decide +kernel
theorem dX4_can_31 : decode cX4_can 31 = .ok (.ireturn, 1) := by decide +kernel
theorem dX4_expects_0 : decode cX4_expects 0 = .ok (.aload_n 0, 1) := by decide +kernel
theorem dX4_expects_1 : decode cX4_expects 1 = .ok (.iload_n 1, 1) := by decide +kernel
theorem dX4_expects_2 : decode cX4_expects 2 = .ok (.invokevirtual 80, 3) := by decide +kernel
theorem dX4_expects_5 : decode cX4_expects 5 = .ok (.ifCond .eq 11, 3) := by decide +kernel
theorem dX4_expects_8 : decode cX4_expects 8 = .ok (.aload_n 0, 1) := by decide +kernel
theorem dX4_expects_9 : decode cX4_expects 9 = .ok (.iload_n 2, 1) := by decide +kernel
theorem dX4_expects_10 : decode cX4_expects 10 = .ok (.invokevirtual 118, 3) := by decide +kernel
theorem dX4_expects_13 : decode cX4_expects 13 = .ok (.ifCond .ne 10, 3) := by decide +kernel
theorem dX4_expects_16 : decode cX4_expects 16 = .ok (.aload_n 0, 1) := by decide +kernel
theorem dX4_expects_17 : decode cX4_expects 17 = .ok (.bipush (-2), 2) := by decide +kernel
theorem dX4_expects_19 : decode cX4_expects 19 = .ok (.invokevirtual 69, 3) := by decide +kernel
theorem dX4_expects_22 : decode cX4_expects 22 = .ok (.ireturn, 1) := by decide +kernel
theorem dX4_expects_23 : decode cX4_expects 23 = .ok (.aload_n 0, 1) := by decide +kernel
theorem dX4_expects_24 : decode cX4_expects 24 = .ok (.iload_n 1, 1) := by decide +kernel
theorem dX4_expects_25 : decode cX4_expects 25 = .ok (.iload_n 2, 1) := by decide +kernel
theorem dX4_expects_26 : decode cX4_expects 26 = .ok (.invokevirtual 105, 3) := by decide +kernel
theorem dX4_expects_29 : decode cX4_expects 29 = .ok (.ifCond .eq 7, 3) := by decide +kernel
theorem dX4_expects_32 : decode cX4_expects 32 = .ok (.iconst 1, 1) := by decide +kernel
theorem dX4_expects_33 : decode cX4_expects 33 = .ok (.goto 4, 3) := by decide +kernel
theorem dX4_expects_36 : decode cX4_expects 36 = .ok (.iconst 0, 1) := by decide +kernel
theorem dX4_expects_37 : decode cX4_expects 37 = .ok (.ireturn, 1) := by decide +kernel
theorem dX4_who_0 : decode cX4_who 0 = .ok (.aload_n 0, 1) := by decide +kernel
theorem dX4_who_1 : decode cX4_who 1 = .ok (.iload_n 1, 1) := by decide +kernel
theorem dX4_who_2 : decode cX4_who 2 = .ok (.invokevirtual 118, 3) := by decide +kernel
theorem dX4_who_5 : decode cX4_who 5 = .ok (.ifCond .eq 11, 3) := by decide +kernel
theorem dX4_who_8 : decode cX4_who 8 = .ok (.aload_n 0, 1) := by decide +kernel
theorem dX4_who_9 : decode cX4_who 9 = .ok (.iload_n 1, 1) := by decide +kernel
theorem dX4_who_10 : decode cX4_who 10 = .ok (.invokevirtual 205, 3) := by decide +kernel
theorem dX4_who_13 : decode cX4_who 13 = .ok (.goto 9, 3) := by decide +kernel
theorem dX4_who_16 : decode cX4_who 16 = .ok (.aload_n 0, 1) := by decide +kernel
theorem dX4_who_17 : decode cX4_who 17 = .ok (.bipush (-2), 2) := by decide +kernel
theorem dX4_who_19 : decode cX4_who 19 = .ok (.invokevirtual 69, 3) := by decide +kernel
theorem dX4_who_22 : decode cX4_who 22 = .ok (.ireturn, 1) := by decide +kernel
theorem dX4_first_0 : decode cX4_first 0 = .ok (.aload_n 0, 1) := by decide +kernel
theorem dX4_first_1 : decode cX4_first 1 = .ok (.iload_n 1, 1) := by decide +kernel
theorem dX4_first_2 : decode cX4_first 2 = .ok (.invokevirtual 80, 3) := by decide +kernel
theorem dX4_first_5 : decode cX4_first 5 = .ok (.ifCond .eq 11, 3) := by decide +kernel
theorem dX4_first_8 : decode cX4_first 8 = .ok (.aload_n 0, 1) := by decide +kernel
theorem dX4_first_9 : decode cX4_first 9 = .ok (.iload_n 1, 1) := by decide +kernel
theorem dX4_first_10 : decode cX4_first 10 = .ok (.invokevirtual 87, 3) := by decide +kernel
theorem dX4_first_13 : decode cX4_first 13 = .ok (.goto 9, 3) := by decide +kernel
theorem dX4_first_16 : decode cX4_first 16 = .ok (.aload_n 0, 1) := by decide +kernel
theorem dX4_first_17 : decode cX4_first 17 = .ok (.bipush (-2), 2) := by decide +kernel
theorem dX4_first_19 : decode cX4_first 19 = .ok (.invokevirtual 69, 3) := by decide +kernel
theorem dX4_first_22 : decode cX4_first 22 = .ok (.ireturn, 1) := by decide +kernel
theorem dX4_lasts_0 : decode cX4_lasts 0 = .ok (.aload_n 0, 1) := by decide +kernel
theorem dX4_lasts_1 : decode cX4_lasts 1 = .ok (.iload_n 1, 1) := by decide +kernel
theorem dX4_lasts_2 : decode cX4_lasts 2 = .ok (.invokevirtual 80, 3) := by decide +kernel
theorem dX4_lasts_5 : decode cX4_lasts 5 = .ok (.ifCond .eq 15, 3) := by decide +kernel
theorem dX4_lasts_8 : decode cX4_lasts 8 = .ok (.aload_n 0, 1) := by decide +kernel
theorem dX4_lasts_9 : decode cX4_lasts 9 = .ok (.iload_n 1, 1) := by decide +kernel
theorem dX4_lasts_10 : decode cX4_lasts 10 = .ok (.iconst 0, 1) := by decide +kernel
theorem dX4_lasts_11 : decode cX4_lasts 11 = .ok (.invokevirtual 202, 3) := by decide +kernel
theorem dX4_lasts_14 : decode cX4_lasts 14 = .ok (.invokestatic 214, 3) := by decide +kernel
theorem dX4_lasts_17 : decode cX4_lasts 17 = .ok (.goto 9, 3) := by decide +kernel
theorem dX4_lasts_20 : decode cX4_lasts 20 = .ok (.aload_n 0, 1) := by decide +kernel
theorem dX4_lasts_21 : decode cX4_lasts 21 = .ok (.bipush (-2), 2) := by decide +kernel
theorem dX4_lasts_23 : decode cX4_lasts 23 = .ok (.invokevirtual 69, 3) := by decide +kernel
theorem dX4_lasts_26 : decode cX4_lasts 26 = .ok (.ireturn, 1) := by decide +kernel
theorem dX4_ends_0 : decode cX4_ends 0 = .ok (.aload_n 0, 1) := by decide +kernel
theorem dX4_ends_1 : decode cX4_ends 1 = .ok (.invokevirtual 101, 3) := by decide +kernel
theorem dX4_ends_4 : decode cX4_ends 4 = .ok (.ireturn, 1) := by decide +kernel
theorem dX4_agree_0 : decode cX4_agree 0 = .ok (.aload_n 0, 1) := by decide +kernel
theorem dX4_agree_1 : decode cX4_agree 1 = .ok (.iload_n 1, 1) := by decide +kernel
theorem dX4_agree_2 : decode cX4_agree 2 = .ok (.invokevirtual 118, 3) := by decide +kernel
theorem dX4_agree_5 : decode cX4_agree 5 = .ok (.ifCond .ne 10, 3) := by decide +kernel
theorem dX4_agree_8 : decode cX4_agree 8 = .ok (.aload_n 0, 1) := by decide +kernel
theorem dX4_agree_9 : decode cX4_agree 9 = .ok (.bipush (-2), 2) := by decide +kernel
theorem dX4_agree_11 : decode cX4_agree 11 = .ok (.invokevirtual 69, 3) := by decide +kernel
theorem dX4_agree_14 : decode cX4_agree 14 = .ok (.ireturn, 1) := by decide +kernel
theorem dX4_agree_15 : decode cX4_agree 15 = .ok (.iconst 0, 1) := by decide +kernel
theorem dX4_agree_16 : decode cX4_agree 16 = .ok (.istore_n 2, 1) := by decide +kernel
theorem dX4_agree_17 : decode cX4_agree 17 = .ok (.iconst 0, 1) := by decide +kernel
theorem dX4_agree_18 : decode cX4_agree 18 = .ok (.istore_n 3, 1) := by decide +kernel
theorem dX4_agree_19 : decode cX4_agree 19 = .ok (.iload_n 3, 1) := by decide +kernel
theorem dX4_agree_20 : decode cX4_agree 20 = .ok (.aload_n 0, 1) := by decide +kernel
theorem dX4_agree_21 : decode cX4_agree 21 = .ok (.getfield 59, 3) := by decide +kernel
theorem dX4_agree_24 : decode cX4_agree 24 = .ok (.if_icmp .ge 43, 3) := by decide +kernel
theorem dX4_agree_27 : decode cX4_agree 27 = .ok (.iconst 0, 1) := by decide +kernel
theorem dX4_agree_28 : decode cX4_agree 28 = .ok (.istore 4, 2) := by decide +kernel
theorem dX4_agree_30 : decode cX4_agree 30 = .ok (.iload 4, 2) := by decide +kernel
theorem dX4_agree_32 : decode cX4_agree 32 = .ok (.iload_n 3, 1) := by decide +kernel
theorem dX4_agree_33 : decode cX4_agree 33 = .ok (.if_icmp .ge 28, 3) := by decide +kernel
theorem dX4_agree_36 : decode cX4_agree 36 = .ok (.aload_n 0, 1) := by decide +kernel
theorem dX4_agree_37 : decode cX4_agree 37 = .ok (.iload_n 3, 1) := by decide +kernel
theorem dX4_agree_38 : decode cX4_agree 38 = .ok (.iload_n 1, 1) := by decide +kernel
theorem dX4_agree_39 : decode cX4_agree 39 = .ok (.invokevirtual 202, 3) := by decide +kernel
theorem dX4_agree_42 : decode cX4_agree 42 = .ok (.aload_n 0, 1) := by decide +kernel
theorem dX4_agree_43 : decode cX4_agree 43 = .ok (.iload 4, 2) := by decide +kernel
theorem dX4_agree_45 : decode cX4_agree 45 = .ok (.iload_n 1, 1) := by decide +kernel
theorem dX4_agree_46 : decode cX4_agree 46 = .ok (.invokevirtual 202, 3) := by decide +kernel
theorem dX4_agree_49 : decode cX4_agree 49 = .ok (.if_icmp .ne 6, 3) := by decide +kernel
theorem dX4_agree_52 : decode cX4_agree 52 = .ok (.iinc 2 1, 3) := by decide +kernel
theorem dX4_agree_55 : decode cX4_agree 55 = .ok (.iinc 4 1, 3) := by decide +kernel
theorem dX4_agree_58 : decode cX4_agree 58 = .ok (.goto (-28), 3) := by decide +kernel
theorem dX4_agree_61 : decode cX4_agree 61 = .ok (.iinc 3 1, 3) := by decide +kernel
theorem dX4_agree_64 : decode cX4_agree 64 = .ok (.goto (-45), 3) := by decide +kernel
theorem dX4_agree_67 : decode cX4_agree 67 = .ok (.iload_n 2, 1) := by decide +kernel
theorem dX4_agree_68 : decode cX4_agree 68 = .ok (.ireturn, 1) := by decide +kernel
theorem dX4_surprises_0 : decode cX4_surprises 0 = .ok (.aload_n 0, 1) := by decide +kernel
theorem dX4_surprises_1 : decode cX4_surprises 1 = .ok (.invokevirtual 217, 3) := by decide +kernel
theorem dX4_surprises_4 : decode cX4_surprises 4 = .ok (.ireturn, 1) := by decide +kernel
theorem dX4_oddsOf_0 : decode cX4_oddsOf 0 = .ok (.aload_n 0, 1) := by decide +kernel
theorem dX4_oddsOf_1 : decode cX4_oddsOf 1 = .ok (.getfield 111, 3) := by decide +kernel
theorem dX4_oddsOf_4 : decode cX4_oddsOf 4 = .ok (.iload_n 1, 1) := by decide +kernel
theorem dX4_oddsOf_5 : decode cX4_oddsOf 5 = .ok (.invokestatic 121, 3) := by decide +kernel
theorem dX4_oddsOf_8 : decode cX4_oddsOf 8 = .ok (.ifCond .eq 25, 3) := by decide +kernel
theorem dX4_oddsOf_11 : decode cX4_oddsOf 11 = .ok (.ldc 220, 2) := by decide +kernel
theorem dX4_oddsOf_13 : decode cX4_oddsOf 13 = .ok (.aload_n 0, 1) := by decide +kernel
theorem dX4_oddsOf_14 : decode cX4_oddsOf 14 = .ok (.getfield 20, 3) := by decide +kernel
theorem dX4_oddsOf_17 : decode cX4_oddsOf 17 = .ok (.iload_n 1, 1) := by decide +kernel
theorem dX4_oddsOf_18 : decode cX4_oddsOf 18 = .ok (.iaload, 1) := by decide +kernel
theorem dX4_oddsOf_19 : decode cX4_oddsOf 19 = .ok (.imul, 1) := by decide +kernel
theorem dX4_oddsOf_20 : decode cX4_oddsOf 20 = .ok (.aload_n 0, 1) := by decide +kernel
theorem dX4_oddsOf_21 : decode cX4_oddsOf 21 = .ok (.aload_n 0, 1) := by decide +kernel
theorem dX4_oddsOf_22 : decode cX4_oddsOf 22 = .ok (.iload_n 1, 1) := by decide +kernel
theorem dX4_oddsOf_23 : decode cX4_oddsOf 23 = .ok (.invokevirtual 196, 3) := by decide +kernel
theorem dX4_oddsOf_26 : decode cX4_oddsOf 26 = .ok (.invokevirtual 199, 3) := by decide +kernel
theorem dX4_oddsOf_29 : decode cX4_oddsOf 29 = .ok (.idiv, 1) := by decide +kernel
theorem dX4_oddsOf_30 : decode cX4_oddsOf 30 = .ok (.goto 4, 3) := by decide +kernel
theorem dX4_oddsOf_33 : decode cX4_oddsOf 33 = .ok (.iconst 0, 1) := by decide +kernel
theorem dX4_oddsOf_34 : decode cX4_oddsOf 34 = .ok (.ireturn, 1) := by decide +kernel
theorem dX4_odds_0 : decode cX4_odds 0 = .ok (.aload_n 0, 1) := by decide +kernel
theorem dX4_odds_1 : decode cX4_odds 1 = .ok (.iload_n 1, 1) := by decide +kernel
theorem dX4_odds_2 : decode cX4_odds 2 = .ok (.invokevirtual 118, 3) := by decide +kernel
theorem dX4_odds_5 : decode cX4_odds 5 = .ok (.ifCond .ne 10, 3) := by decide +kernel
theorem dX4_odds_8 : decode cX4_odds 8 = .ok (.aload_n 0, 1) := by decide +kernel
theorem dX4_odds_9 : decode cX4_odds 9 = .ok (.bipush (-2), 2) := by decide +kernel
theorem dX4_odds_11 : decode cX4_odds 11 = .ok (.invokevirtual 69, 3) := by decide +kernel
theorem dX4_odds_14 : decode cX4_odds 14 = .ok (.ireturn, 1) := by decide +kernel
theorem dX4_odds_15 : decode cX4_odds 15 = .ok (.aload_n 0, 1) := by decide +kernel
theorem dX4_odds_16 : decode cX4_odds 16 = .ok (.aload_n 0, 1) := by decide +kernel
theorem dX4_odds_17 : decode cX4_odds 17 = .ok (.iload_n 1, 1) := by decide +kernel
theorem dX4_odds_18 : decode cX4_odds 18 = .ok (.invokevirtual 196, 3) := by decide +kernel
theorem dX4_odds_21 : decode cX4_odds 21 = .ok (.invokevirtual 199, 3) := by decide +kernel
theorem dX4_odds_24 : decode cX4_odds 24 = .ok (.ifCond .ne 12, 3) := by decide +kernel
theorem dX4_odds_27 : decode cX4_odds 27 = .ok (.aload_n 0, 1) := by decide +kernel
theorem dX4_odds_28 : decode cX4_odds 28 = .ok (.bipush (-5), 2) := by decide +kernel
theorem dX4_odds_30 : decode cX4_odds 30 = .ok (.invokevirtual 69, 3) := by decide +kernel
theorem dX4_odds_33 : decode cX4_odds 33 = .ok (.goto 8, 3) := by decide +kernel
theorem dX4_odds_36 : decode cX4_odds 36 = .ok (.aload_n 0, 1) := by decide +kernel
theorem dX4_odds_37 : decode cX4_odds 37 = .ok (.iload_n 1, 1) := by decide +kernel
theorem dX4_odds_38 : decode cX4_odds 38 = .ok (.invokevirtual 221, 3) := by decide +kernel
theorem dX4_odds_41 : decode cX4_odds 41 = .ok (.ireturn, 1) := by decide +kernel
theorem dX4_likeliest_0 : decode cX4_likeliest 0 = .ok (.iconst (-1), 1) := by decide +kernel
theorem dX4_likeliest_1 : decode cX4_likeliest 1 = .ok (.istore_n 1, 1) := by decide +kernel
theorem dX4_likeliest_2 : decode cX4_likeliest 2 = .ok (.iconst 0, 1) := by decide +kernel
theorem dX4_likeliest_3 : decode cX4_likeliest 3 = .ok (.istore_n 2, 1) := by decide +kernel
theorem dX4_likeliest_4 : decode cX4_likeliest 4 = .ok (.iload_n 2, 1) := by decide +kernel
theorem dX4_likeliest_5 : decode cX4_likeliest 5 = .ok (.aload_n 0, 1) := by decide +kernel
theorem dX4_likeliest_6 : decode cX4_likeliest 6 = .ok (.getfield 66, 3) := by decide +kernel
theorem dX4_likeliest_9 : decode cX4_likeliest 9 = .ok (.if_icmp .ge 40, 3) := by decide +kernel
theorem dX4_likeliest_12 : decode cX4_likeliest 12 = .ok (.aload_n 0, 1) := by decide +kernel
theorem dX4_likeliest_13 : decode cX4_likeliest 13 = .ok (.aload_n 0, 1) := by decide +kernel
theorem dX4_likeliest_14 : decode cX4_likeliest 14 = .ok (.iload_n 2, 1) := by decide +kernel
theorem dX4_likeliest_15 : decode cX4_likeliest 15 = .ok (.invokevirtual 196, 3) := by decide +kernel
theorem dX4_likeliest_18 : decode cX4_likeliest 18 = .ok (.invokevirtual 199, 3) := by decide +kernel
theorem dX4_likeliest_21 : decode cX4_likeliest 21 = .ok (.ifCond .le 22, 3) := by decide +kernel
theorem dX4_likeliest_24 : decode cX4_likeliest 24 = .ok (.iload_n 1, 1) := by decide +kernel
theorem dX4_likeliest_25 : decode cX4_likeliest 25 = .ok (.ifCond .lt 16, 3) := by decide +kernel
theorem dX4_likeliest_28 : decode cX4_likeliest 28 = .ok (.aload_n 0, 1) := by decide +kernel
theorem dX4_likeliest_29 : decode cX4_likeliest 29 = .ok (.iload_n 2, 1) := by decide +kernel
theorem dX4_likeliest_30 : decode cX4_likeliest 30 = .ok (.invokevirtual 221, 3) := by decide +kernel
theorem dX4_likeliest_33 : decode cX4_likeliest 33 = .ok (.aload_n 0, 1) := by decide +kernel
theorem dX4_likeliest_34 : decode cX4_likeliest 34 = .ok (.iload_n 1, 1) := by decide +kernel
theorem dX4_likeliest_35 : decode cX4_likeliest 35 = .ok (.invokevirtual 221, 3) := by decide +kernel
theorem dX4_likeliest_38 : decode cX4_likeliest 38 = .ok (.if_icmp .le 5, 3) := by decide +kernel
theorem dX4_likeliest_41 : decode cX4_likeliest 41 = .ok (.iload_n 2, 1) := by decide +kernel
theorem dX4_likeliest_42 : decode cX4_likeliest 42 = .ok (.istore_n 1, 1) := by decide +kernel
theorem dX4_likeliest_43 : decode cX4_likeliest 43 = .ok (.iinc 2 1, 3) := by decide +kernel
theorem dX4_likeliest_46 : decode cX4_likeliest 46 = .ok (.goto (-42), 3) := by decide +kernel
theorem dX4_likeliest_49 : decode cX4_likeliest 49 = .ok (.iload_n 1, 1) := by decide +kernel
theorem dX4_likeliest_50 : decode cX4_likeliest 50 = .ok (.ifCond .ge 12, 3) := by decide +kernel
theorem dX4_likeliest_53 : decode cX4_likeliest 53 = .ok (.aload_n 0, 1) := by decide +kernel
theorem dX4_likeliest_54 : decode cX4_likeliest 54 = .ok (.bipush (-5), 2) := by decide +kernel
theorem dX4_likeliest_56 : decode cX4_likeliest 56 = .ok (.invokevirtual 69, 3) := by decide +kernel
theorem dX4_likeliest_59 : decode cX4_likeliest 59 = .ok (.goto 4, 3) := by decide +kernel
theorem dX4_likeliest_62 : decode cX4_likeliest 62 = .ok (.iload_n 1, 1) := by decide +kernel
theorem dX4_likeliest_63 : decode cX4_likeliest 63 = .ok (.ireturn, 1) := by decide +kernel
theorem dX4_caught_0 : decode cX4_caught 0 = .ok (.aload_n 0, 1) := by decide +kernel
theorem dX4_caught_1 : decode cX4_caught 1 = .ok (.aload_n 0, 1) := by decide +kernel
theorem dX4_caught_2 : decode cX4_caught 2 = .ok (.getfield 111, 3) := by decide +kernel
theorem dX4_caught_5 : decode cX4_caught 5 = .ok (.invokevirtual 199, 3) := by decide +kernel
theorem dX4_caught_8 : decode cX4_caught 8 = .ok (.istore_n 1, 1) := by decide +kernel
theorem dX4_caught_9 : decode cX4_caught 9 = .ok (.iload_n 1, 1) := by decide +kernel
theorem dX4_caught_10 : decode cX4_caught 10 = .ok (.ifCond .ne 12, 3) := by decide +kernel
theorem dX4_caught_13 : decode cX4_caught 13 = .ok (.aload_n 0, 1) := by decide +kernel
theorem dX4_caught_14 : decode cX4_caught 14 = .ok (.bipush (-5), 2) := by decide +kernel
theorem dX4_caught_16 : decode cX4_caught 16 = .ok (.invokevirtual 69, 3) := by decide +kernel
theorem dX4_caught_19 : decode cX4_caught 19 = .ok (.goto 23, 3) := by decide +kernel
theorem dX4_caught_22 : decode cX4_caught 22 = .ok (.ldc 220, 2) := by decide +kernel
theorem dX4_caught_24 : decode cX4_caught 24 = .ok (.aload_n 0, 1) := by decide +kernel
theorem dX4_caught_25 : decode cX4_caught 25 = .ok (.aload_n 0, 1) := by decide +kernel
theorem dX4_caught_26 : decode cX4_caught 26 = .ok (.getfield 111, 3) := by decide +kernel
theorem dX4_caught_29 : decode cX4_caught 29 = .ok (.aload_n 0, 1) := by decide +kernel
