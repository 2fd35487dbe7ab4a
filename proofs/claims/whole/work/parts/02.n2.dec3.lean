theorem dX4_caught_30 : decode cX4_caught 30 = .ok (.invokevirtual 217, 3) := by decide +kernel
theorem dX4_caught_33 : decode cX4_caught 33 = .ok (.iconst (-1), 1) := by decide +kernel
theorem dX4_caught_34 : decode cX4_caught 34 = .ok (.ixor, 1) := by decide +kernel
theorem dX4_caught_35 : decode cX4_caught 35 = .ok (.iand, 1) := by decide +kernel
theorem dX4_caught_36 : decode cX4_caught 36 = .ok (.invokevirtual 199, 3) := by decide +kernel
theorem dX4_caught_39 : decode cX4_caught 39 = .ok (.imul, 1) := by decide +kernel
theorem dX4_caught_40 : decode cX4_caught 40 = .ok (.iload_n 1, 1) := by decide +kernel
theorem dX4_caught_41 : decode cX4_caught 41 = .ok (.idiv, 1) := by decide +kernel
theorem dX4_caught_42 : decode cX4_caught 42 = .ok (.ireturn, 1) := by decide +kernel
theorem dX4_draws_0 : decode cX4_draws 0 = .ok (.iload_n 1, 1) := by decide +kernel
theorem dX4_draws_1 : decode cX4_draws 1 = .ok (.aload_n 0, 1) := by decide +kernel
theorem dX4_draws_2 : decode cX4_draws 2 = .ok (.getfield 66, 3) := by decide +kernel
theorem dX4_draws_5 : decode cX4_draws 5 = .ok (.if_icmp .ne 76, 3) := by decide +kernel
theorem dX4_draws_8 : decode cX4_draws 8 = .ok (.iload_n 2, 1) := by decide +kernel
theorem dX4_draws_9 : decode cX4_draws 9 = .ok (.ifCond .le 4, 3) := by decide +kernel
theorem dX4_draws_12 : decode cX4_draws 12 = .ok (.return_, 1) := by decide +kernel
theorem dX4_draws_13 : decode cX4_draws 13 = .ok (.aload_n 0, 1) := by decide +kernel
theorem dX4_draws_14 : decode cX4_draws 14 = .ok (.aload_n 0, 1) := by decide +kernel
theorem dX4_draws_15 : decode cX4_draws 15 = .ok (.getfield 111, 3) := by decide +kernel
theorem dX4_draws_18 : decode cX4_draws 18 = .ok (.aload_n 0, 1) := by decide +kernel
theorem dX4_draws_19 : decode cX4_draws 19 = .ok (.invokevirtual 217, 3) := by decide +kernel
theorem dX4_draws_22 : decode cX4_draws 22 = .ok (.iconst (-1), 1) := by decide +kernel
theorem dX4_draws_23 : decode cX4_draws 23 = .ok (.ixor, 1) := by decide +kernel
theorem dX4_draws_24 : decode cX4_draws 24 = .ok (.iand, 1) := by decide +kernel
theorem dX4_draws_25 : decode cX4_draws 25 = .ok (.invokevirtual 199, 3) := by decide +kernel
theorem dX4_draws_28 : decode cX4_draws 28 = .ok (.istore_n 3, 1) := by decide +kernel
theorem dX4_draws_29 : decode cX4_draws 29 = .ok (.aload_n 0, 1) := by decide +kernel
theorem dX4_draws_30 : decode cX4_draws 30 = .ok (.getfield 224, 3) := by decide +kernel
theorem dX4_draws_33 : decode cX4_draws 33 = .ok (.ifCond .lt 12, 3) := by decide +kernel
theorem dX4_draws_36 : decode cX4_draws 36 = .ok (.iload_n 3, 1) := by decide +kernel
theorem dX4_draws_37 : decode cX4_draws 37 = .ok (.aload_n 0, 1) := by decide +kernel
theorem dX4_draws_38 : decode cX4_draws 38 = .ok (.getfield 224, 3) := by decide +kernel
theorem dX4_draws_41 : decode cX4_draws 41 = .ok (.if_icmp .lt 4, 3) := by decide +kernel
theorem dX4_draws_44 : decode cX4_draws 44 = .ok (.return_, 1) := by decide +kernel
theorem dX4_draws_45 : decode cX4_draws 45 = .ok (.aload_n 0, 1) := by decide +kernel
theorem dX4_draws_46 : decode cX4_draws 46 = .ok (.iload_n 3, 1) := by decide +kernel
theorem dX4_draws_47 : decode cX4_draws 47 = .ok (.putfield 224, 3) := by decide +kernel
theorem dX4_draws_50 : decode cX4_draws 50 = .ok (.iconst 0, 1) := by decide +kernel
theorem dX4_draws_51 : decode cX4_draws 51 = .ok (.istore 4, 2) := by decide +kernel
theorem dX4_draws_53 : decode cX4_draws 53 = .ok (.iload 4, 2) := by decide +kernel
theorem dX4_draws_55 : decode cX4_draws 55 = .ok (.bipush 9, 2) := by decide +kernel
theorem dX4_draws_57 : decode cX4_draws 57 = .ok (.if_icmp .ge 23, 3) := by decide +kernel
theorem dX4_draws_60 : decode cX4_draws 60 = .ok (.aload_n 0, 1) := by decide +kernel
theorem dX4_draws_61 : decode cX4_draws 61 = .ok (.getfield 41, 3) := by decide +kernel
theorem dX4_draws_64 : decode cX4_draws 64 = .ok (.iload 4, 2) := by decide +kernel
theorem dX4_draws_66 : decode cX4_draws 66 = .ok (.aload_n 0, 1) := by decide +kernel
theorem dX4_draws_67 : decode cX4_draws 67 = .ok (.getfield 20, 3) := by decide +kernel
theorem dX4_draws_70 : decode cX4_draws 70 = .ok (.iload 4, 2) := by decide +kernel
theorem dX4_draws_72 : decode cX4_draws 72 = .ok (.iaload, 1) := by decide +kernel
theorem dX4_draws_73 : decode cX4_draws 73 = .ok (.iastore, 1) := by decide +kernel
theorem dX4_draws_74 : decode cX4_draws 74 = .ok (.iinc 4 1, 3) := by decide +kernel
theorem dX4_draws_77 : decode cX4_draws 77 = .ok (.goto (-24), 3) := by decide +kernel
theorem dX4_draws_80 : decode cX4_draws 80 = .ok (.return_, 1) := by decide +kernel
theorem dX4_draws_81 : decode cX4_draws 81 = .ok (.aload_n 0, 1) := by decide +kernel
theorem dX4_draws_82 : decode cX4_draws 82 = .ok (.getfield 111, 3) := by decide +kernel
theorem dX4_draws_85 : decode cX4_draws 85 = .ok (.iload_n 1, 1) := by decide +kernel
theorem dX4_draws_86 : decode cX4_draws 86 = .ok (.invokestatic 121, 3) := by decide +kernel
theorem dX4_draws_89 : decode cX4_draws 89 = .ok (.ifCond .eq 7, 3) := by decide +kernel
theorem dX4_draws_92 : decode cX4_draws 92 = .ok (.iload_n 2, 1) := by decide +kernel
theorem dX4_draws_93 : decode cX4_draws 93 = .ok (.goto 4, 3) := by decide +kernel
theorem dX4_draws_96 : decode cX4_draws 96 = .ok (.iconst 0, 1) := by decide +kernel
theorem dX4_draws_97 : decode cX4_draws 97 = .ok (.istore_n 3, 1) := by decide +kernel
theorem dX4_draws_98 : decode cX4_draws 98 = .ok (.iconst 0, 1) := by decide +kernel
theorem dX4_draws_99 : decode cX4_draws 99 = .ok (.istore 4, 2) := by decide +kernel
theorem dX4_draws_101 : decode cX4_draws 101 = .ok (.iload 4, 2) := by decide +kernel
theorem dX4_draws_103 : decode cX4_draws 103 = .ok (.iload_n 3, 1) := by decide +kernel
theorem dX4_draws_104 : decode cX4_draws 104 = .ok (.if_icmp .gt 28, 3) := by decide +kernel
theorem dX4_draws_107 : decode cX4_draws 107 = .ok (.aload_n 0, 1) := by decide +kernel
theorem dX4_draws_108 : decode cX4_draws 108 = .ok (.getfield 20, 3) := by decide +kernel
theorem dX4_draws_111 : decode cX4_draws 111 = .ok (.iload_n 1, 1) := by decide +kernel
theorem dX4_draws_112 : decode cX4_draws 112 = .ok (.iload 4, 2) := by decide +kernel
theorem dX4_draws_114 : decode cX4_draws 114 = .ok (.iastore, 1) := by decide +kernel
theorem dX4_draws_115 : decode cX4_draws 115 = .ok (.aload_n 0, 1) := by decide +kernel
theorem dX4_draws_116 : decode cX4_draws 116 = .ok (.iload_n 1, 1) := by decide +kernel
theorem dX4_draws_117 : decode cX4_draws 117 = .ok (.iconst 1, 1) := by decide +kernel
theorem dX4_draws_118 : decode cX4_draws 118 = .ok (.iadd, 1) := by decide +kernel
theorem dX4_draws_119 : decode cX4_draws 119 = .ok (.iload_n 2, 1) := by decide +kernel
theorem dX4_draws_120 : decode cX4_draws 120 = .ok (.iload 4, 2) := by decide +kernel
theorem dX4_draws_122 : decode cX4_draws 122 = .ok (.isub, 1) := by decide +kernel
theorem dX4_draws_123 : decode cX4_draws 123 = .ok (.invokevirtual 227, 3) := by decide +kernel
theorem dX4_draws_126 : decode cX4_draws 126 = .ok (.iinc 4 1, 3) := by decide +kernel
theorem dX4_draws_129 : decode cX4_draws 129 = .ok (.goto (-28), 3) := by decide +kernel
theorem dX4_draws_132 : decode cX4_draws 132 = .ok (.return_, 1) := by decide +kernel
theorem dX4_best_0 : decode cX4_best 0 = .ok (.iload_n 1, 1) := by decide +kernel
theorem dX4_best_1 : decode cX4_best 1 = .ok (.iconst 1, 1) := by decide +kernel
theorem dX4_best_2 : decode cX4_best 2 = .ok (.bipush 6, 2) := by decide +kernel
theorem dX4_best_4 : decode cX4_best 4 = .ok (.invokestatic 62, 3) := by decide +kernel
theorem dX4_best_7 : decode cX4_best 7 = .ok (.ifCond .eq 16, 3) := by decide +kernel
theorem dX4_best_10 : decode cX4_best 10 = .ok (.iload_n 2, 1) := by decide +kernel
theorem dX4_best_11 : decode cX4_best 11 = .ok (.iconst (-1), 1) := by decide +kernel
theorem dX4_best_12 : decode cX4_best 12 = .ok (.if_icmp .eq 18, 3) := by decide +kernel
theorem dX4_best_15 : decode cX4_best 15 = .ok (.aload_n 0, 1) := by decide +kernel
theorem dX4_best_16 : decode cX4_best 16 = .ok (.iload_n 2, 1) := by decide +kernel
theorem dX4_best_17 : decode cX4_best 17 = .ok (.invokevirtual 118, 3) := by decide +kernel
theorem dX4_best_20 : decode cX4_best 20 = .ok (.ifCond .ne 10, 3) := by decide +kernel
theorem dX4_best_23 : decode cX4_best 23 = .ok (.aload_n 0, 1) := by decide +kernel
theorem dX4_best_24 : decode cX4_best 24 = .ok (.bipush (-2), 2) := by decide +kernel
theorem dX4_best_26 : decode cX4_best 26 = .ok (.invokevirtual 69, 3) := by decide +kernel
theorem dX4_best_29 : decode cX4_best 29 = .ok (.ireturn, 1) := by decide +kernel
theorem dX4_best_30 : decode cX4_best 30 = .ok (.aload_n 0, 1) := by decide +kernel
theorem dX4_best_31 : decode cX4_best 31 = .ok (.getfield 111, 3) := by decide +kernel
theorem dX4_best_34 : decode cX4_best 34 = .ok (.ifCond .ne 10, 3) := by decide +kernel
theorem dX4_best_37 : decode cX4_best 37 = .ok (.aload_n 0, 1) := by decide +kernel
theorem dX4_best_38 : decode cX4_best 38 = .ok (.bipush (-5), 2) := by decide +kernel
theorem dX4_best_40 : decode cX4_best 40 = .ok (.invokevirtual 69, 3) := by decide +kernel
theorem dX4_best_43 : decode cX4_best 43 = .ok (.ireturn, 1) := by decide +kernel
theorem dX4_best_44 : decode cX4_best 44 = .ok (.aload_n 0, 1) := by decide +kernel
theorem dX4_best_45 : decode cX4_best 45 = .ok (.aload_n 0, 1) := by decide +kernel
theorem dX4_best_46 : decode cX4_best 46 = .ok (.getfield 38, 3) := by decide +kernel
theorem dX4_best_49 : decode cX4_best 49 = .ok (.invokevirtual 174, 3) := by decide +kernel
theorem dX4_best_52 : decode cX4_best 52 = .ok (.aload_n 0, 1) := by decide +kernel
theorem dX4_best_53 : decode cX4_best 53 = .ok (.iconst (-1), 1) := by decide +kernel
theorem dX4_best_54 : decode cX4_best 54 = .ok (.putfield 224, 3) := by decide +kernel
theorem dX4_best_57 : decode cX4_best 57 = .ok (.aload_n 0, 1) := by decide +kernel
theorem dX4_best_58 : decode cX4_best 58 = .ok (.iconst 0, 1) := by decide +kernel
theorem dX4_best_59 : decode cX4_best 59 = .ok (.iload_n 1, 1) := by decide +kernel
theorem dX4_best_60 : decode cX4_best 60 = .ok (.invokevirtual 227, 3) := by decide +kernel
theorem dX4_best_63 : decode cX4_best 63 = .ok (.aload_n 0, 1) := by decide +kernel
theorem dX4_best_64 : decode cX4_best 64 = .ok (.aload_n 0, 1) := by decide +kernel
theorem dX4_best_65 : decode cX4_best 65 = .ok (.getfield 38, 3) := by decide +kernel
theorem dX4_best_68 : decode cX4_best 68 = .ok (.invokevirtual 182, 3) := by decide +kernel
theorem dX4_best_71 : decode cX4_best 71 = .ok (.iload_n 2, 1) := by decide +kernel
theorem dX4_best_72 : decode cX4_best 72 = .ok (.iconst (-1), 1) := by decide +kernel
theorem dX4_best_73 : decode cX4_best 73 = .ok (.if_icmp .ne 10, 3) := by decide +kernel
theorem dX4_best_76 : decode cX4_best 76 = .ok (.aload_n 0, 1) := by decide +kernel
theorem dX4_best_77 : decode cX4_best 77 = .ok (.getfield 224, 3) := by decide +kernel
theorem dX4_best_80 : decode cX4_best 80 = .ok (.goto 9, 3) := by decide +kernel
theorem dX4_best_83 : decode cX4_best 83 = .ok (.aload_n 0, 1) := by decide +kernel
theorem dX4_best_84 : decode cX4_best 84 = .ok (.getfield 41, 3) := by decide +kernel
theorem dX4_best_87 : decode cX4_best 87 = .ok (.iload_n 2, 1) := by decide +kernel
theorem dX4_best_88 : decode cX4_best 88 = .ok (.iaload, 1) := by decide +kernel
theorem dX4_best_89 : decode cX4_best 89 = .ok (.ireturn, 1) := by decide +kernel
theorem dX4_gains_0 : decode cX4_gains 0 = .ok (.aload_n 0, 1) := by decide +kernel
theorem dX4_gains_1 : decode cX4_gains 1 = .ok (.getfield 111, 3) := by decide +kernel
theorem dX4_gains_4 : decode cX4_gains 4 = .ok (.iload_n 1, 1) := by decide +kernel
theorem dX4_gains_5 : decode cX4_gains 5 = .ok (.invokestatic 121, 3) := by decide +kernel
theorem dX4_gains_8 : decode cX4_gains 8 = .ok (.ifCond .eq 32, 3) := by decide +kernel
theorem dX4_gains_11 : decode cX4_gains 11 = .ok (.ldc2_w 231, 3) := by decide +kernel
theorem dX4_gains_14 : decode cX4_gains 14 = .ok (.aload_n 0, 1) := by decide +kernel
theorem dX4_gains_15 : decode cX4_gains 15 = .ok (.getfield 20, 3) := by decide +kernel
theorem dX4_gains_18 : decode cX4_gains 18 = .ok (.iload_n 1, 1) := by decide +kernel
theorem dX4_gains_19 : decode cX4_gains 19 = .ok (.iaload, 1) := by decide +kernel
theorem dX4_gains_20 : decode cX4_gains 20 = .ok (.i2l, 1) := by decide +kernel
theorem dX4_gains_21 : decode cX4_gains 21 = .ok (.lmul, 1) := by decide +kernel
theorem dX4_gains_22 : decode cX4_gains 22 = .ok (.iload_n 2, 1) := by decide +kernel
theorem dX4_gains_23 : decode cX4_gains 23 = .ok (.i2l, 1) := by decide +kernel
theorem dX4_gains_24 : decode cX4_gains 24 = .ok (.lmul, 1) := by decide +kernel
theorem dX4_gains_25 : decode cX4_gains 25 = .ok (.aload_n 0, 1) := by decide +kernel
theorem dX4_gains_26 : decode cX4_gains 26 = .ok (.aload_n 0, 1) := by decide +kernel
theorem dX4_gains_27 : decode cX4_gains 27 = .ok (.iload_n 1, 1) := by decide +kernel
theorem dX4_gains_28 : decode cX4_gains 28 = .ok (.invokevirtual 196, 3) := by decide +kernel
theorem dX4_gains_31 : decode cX4_gains 31 = .ok (.invokevirtual 199, 3) := by decide +kernel
theorem dX4_gains_34 : decode cX4_gains 34 = .ok (.i2l, 1) := by decide +kernel
theorem dX4_gains_35 : decode cX4_gains 35 = .ok (.ldiv, 1) := by decide +kernel
theorem dX4_gains_36 : decode cX4_gains 36 = .ok (.l2i, 1) := by decide +kernel
theorem dX4_gains_37 : decode cX4_gains 37 = .ok (.goto 4, 3) := by decide +kernel
theorem dX4_gains_40 : decode cX4_gains 40 = .ok (.iconst 0, 1) := by decide +kernel
theorem dX4_gains_41 : decode cX4_gains 41 = .ok (.ldc 220, 2) := by decide +kernel
theorem dX4_gains_43 : decode cX4_gains 43 = .ok (.isub, 1) := by decide +kernel
theorem dX4_gains_44 : decode cX4_gains 44 = .ok (.ireturn, 1) := by decide +kernel
theorem dX4_gain_0 : decode cX4_gain 0 = .ok (.aload_n 0, 1) := by decide +kernel
theorem dX4_gain_1 : decode cX4_gain 1 = .ok (.iload_n 1, 1) := by decide +kernel
theorem dX4_gain_2 : decode cX4_gain 2 = .ok (.invokevirtual 118, 3) := by decide +kernel
theorem dX4_gain_5 : decode cX4_gain 5 = .ok (.ifCond .eq 13, 3) := by decide +kernel
theorem dX4_gain_8 : decode cX4_gain 8 = .ok (.iload_n 2, 1) := by decide +kernel
theorem dX4_gain_9 : decode cX4_gain 9 = .ok (.iconst 1, 1) := by decide +kernel
theorem dX4_gain_10 : decode cX4_gain 10 = .ok (.bipush 40, 2) := by decide +kernel
theorem dX4_gain_12 : decode cX4_gain 12 = .ok (.invokestatic 62, 3) := by decide +kernel
theorem dX4_gain_15 : decode cX4_gain 15 = .ok (.ifCond .ne 10, 3) := by decide +kernel
theorem dX4_gain_18 : decode cX4_gain 18 = .ok (.aload_n 0, 1) := by decide +kernel
theorem dX4_gain_19 : decode cX4_gain 19 = .ok (.bipush (-2), 2) := by decide +kernel
theorem dX4_gain_21 : decode cX4_gain 21 = .ok (.invokevirtual 233, 3) := by decide +kernel
theorem dX4_gain_24 : decode cX4_gain 24 = .ok (.ireturn, 1) := by decide +kernel
theorem dX4_gain_25 : decode cX4_gain 25 = .ok (.aload_n 0, 1) := by decide +kernel
theorem dX4_gain_26 : decode cX4_gain 26 = .ok (.aload_n 0, 1) := by decide +kernel
theorem dX4_gain_27 : decode cX4_gain 27 = .ok (.iload_n 1, 1) := by decide +kernel
theorem dX4_gain_28 : decode cX4_gain 28 = .ok (.invokevirtual 196, 3) := by decide +kernel
theorem dX4_gain_31 : decode cX4_gain 31 = .ok (.invokevirtual 199, 3) := by decide +kernel
theorem dX4_gain_34 : decode cX4_gain 34 = .ok (.ifCond .ne 12, 3) := by decide +kernel
theorem dX4_gain_37 : decode cX4_gain 37 = .ok (.aload_n 0, 1) := by decide +kernel
theorem dX4_gain_38 : decode cX4_gain 38 = .ok (.bipush (-5), 2) := by decide +kernel
theorem dX4_gain_40 : decode cX4_gain 40 = .ok (.invokevirtual 233, 3) := by decide +kernel
theorem dX4_gain_43 : decode cX4_gain 43 = .ok (.goto 9, 3) := by decide +kernel
theorem dX4_gain_46 : decode cX4_gain 46 = .ok (.aload_n 0, 1) := by decide +kernel
theorem dX4_gain_47 : decode cX4_gain 47 = .ok (.iload_n 1, 1) := by decide +kernel
theorem dX4_gain_48 : decode cX4_gain 48 = .ok (.iload_n 2, 1) := by decide +kernel
theorem dX4_gain_49 : decode cX4_gain 49 = .ok (.invokevirtual 236, 3) := by decide +kernel
theorem dX4_gain_52 : decode cX4_gain 52 = .ok (.ireturn, 1) := by decide +kernel
theorem dX4_bet_0 : decode cX4_bet 0 = .ok (.iload_n 1, 1) := by decide +kernel
theorem dX4_bet_1 : decode cX4_bet 1 = .ok (.iconst 1, 1) := by decide +kernel
theorem dX4_bet_2 : decode cX4_bet 2 = .ok (.bipush 40, 2) := by decide +kernel
theorem dX4_bet_4 : decode cX4_bet 4 = .ok (.invokestatic 62, 3) := by decide +kernel
theorem dX4_bet_7 : decode cX4_bet 7 = .ok (.ifCond .ne 10, 3) := by decide +kernel
theorem dX4_bet_10 : decode cX4_bet 10 = .ok (.aload_n 0, 1) := by decide +kernel
theorem dX4_bet_11 : decode cX4_bet 11 = .ok (.bipush (-2), 2) := by decide +kernel
theorem dX4_bet_13 : decode cX4_bet 13 = .ok (.invokevirtual 69, 3) := by decide +kernel
theorem dX4_bet_16 : decode cX4_bet 16 = .ok (.ireturn, 1) := by decide +kernel
theorem dX4_bet_17 : decode cX4_bet 17 = .ok (.iconst 0, 1) := by decide +kernel
theorem dX4_bet_18 : decode cX4_bet 18 = .ok (.istore_n 2, 1) := by decide +kernel
theorem dX4_bet_19 : decode cX4_bet 19 = .ok (.iload_n 2, 1) := by decide +kernel
theorem dX4_bet_20 : decode cX4_bet 20 = .ok (.aload_n 0, 1) := by decide +kernel
theorem dX4_bet_21 : decode cX4_bet 21 = .ok (.getfield 66, 3) := by decide +kernel
theorem dX4_bet_24 : decode cX4_bet 24 = .ok (.if_icmp .ge 43, 3) := by decide +kernel
theorem dX4_bet_27 : decode cX4_bet 27 = .ok (.aload_n 0, 1) := by decide +kernel
theorem dX4_bet_28 : decode cX4_bet 28 = .ok (.getfield 111, 3) := by decide +kernel
theorem dX4_bet_31 : decode cX4_bet 31 = .ok (.iload_n 2, 1) := by decide +kernel
theorem dX4_bet_32 : decode cX4_bet 32 = .ok (.invokestatic 121, 3) := by decide +kernel
theorem dX4_bet_35 : decode cX4_bet 35 = .ok (.ifCond .eq 26, 3) := by decide +kernel
theorem dX4_bet_38 : decode cX4_bet 38 = .ok (.aload_n 0, 1) := by decide +kernel
theorem dX4_bet_39 : decode cX4_bet 39 = .ok (.aload_n 0, 1) := by decide +kernel
theorem dX4_bet_40 : decode cX4_bet 40 = .ok (.iload_n 2, 1) := by decide +kernel
theorem dX4_bet_41 : decode cX4_bet 41 = .ok (.invokevirtual 196, 3) := by decide +kernel
theorem dX4_bet_44 : decode cX4_bet 44 = .ok (.invokevirtual 199, 3) := by decide +kernel
theorem dX4_bet_47 : decode cX4_bet 47 = .ok (.ifCond .le 14, 3) := by decide +kernel
theorem dX4_bet_50 : decode cX4_bet 50 = .ok (.aload_n 0, 1) := by decide +kernel
theorem dX4_bet_51 : decode cX4_bet 51 = .ok (.iload_n 2, 1) := by decide +kernel
theorem dX4_bet_52 : decode cX4_bet 52 = .ok (.iload_n 1, 1) := by decide +kernel
theorem dX4_bet_53 : decode cX4_bet 53 = .ok (.invokevirtual 236, 3) := by decide +kernel
theorem dX4_bet_56 : decode cX4_bet 56 = .ok (.ifCond .lt 5, 3) := by decide +kernel
theorem dX4_bet_59 : decode cX4_bet 59 = .ok (.iload_n 2, 1) := by decide +kernel
theorem dX4_bet_60 : decode cX4_bet 60 = .ok (.ireturn, 1) := by decide +kernel
theorem dX4_bet_61 : decode cX4_bet 61 = .ok (.iinc 2 1, 3) := by decide +kernel
theorem dX4_bet_64 : decode cX4_bet 64 = .ok (.goto (-45), 3) := by decide +kernel
theorem dX4_bet_67 : decode cX4_bet 67 = .ok (.iconst (-1), 1) := by decide +kernel
theorem dX4_bet_68 : decode cX4_bet 68 = .ok (.ireturn, 1) := by decide +kernel
theorem dX4_saying_0 : decode cX4_saying 0 = .ok (.aload_n 0, 1) := by decide +kernel
theorem dX4_saying_1 : decode cX4_saying 1 = .ok (.getfield 48, 3) := by decide +kernel
theorem dX4_saying_4 : decode cX4_saying 4 = .ok (.istore_n 2, 1) := by decide +kernel
theorem dX4_saying_5 : decode cX4_saying 5 = .ok (.iconst (-1), 1) := by decide +kernel
theorem dX4_saying_6 : decode cX4_saying 6 = .ok (.istore_n 3, 1) := by decide +kernel
theorem dX4_saying_7 : decode cX4_saying 7 = .ok (.iconst 0, 1) := by decide +kernel
theorem dX4_saying_8 : decode cX4_saying 8 = .ok (.istore 4, 2) := by decide +kernel
theorem dX4_saying_10 : decode cX4_saying 10 = .ok (.iload 4, 2) := by decide +kernel
theorem dX4_saying_12 : decode cX4_saying 12 = .ok (.bipush 10, 2) := by decide +kernel
theorem dX4_saying_14 : decode cX4_saying 14 = .ok (.if_icmp .ge 31, 3) := by decide +kernel
theorem dX4_saying_17 : decode cX4_saying 17 = .ok (.iload_n 3, 1) := by decide +kernel
theorem dX4_saying_18 : decode cX4_saying 18 = .ok (.ifCond .ge 27, 3) := by decide +kernel
theorem dX4_saying_21 : decode cX4_saying 21 = .ok (.aload_n 0, 1) := by decide +kernel
theorem dX4_saying_22 : decode cX4_saying 22 = .ok (.iload 4, 2) := by decide +kernel
theorem dX4_saying_24 : decode cX4_saying 24 = .ok (.putfield 48, 3) := by decide +kernel
theorem dX4_saying_27 : decode cX4_saying 27 = .ok (.aload_n 0, 1) := by decide +kernel
theorem dX4_saying_28 : decode cX4_saying 28 = .ok (.invokevirtual 217, 3) := by decide +kernel
theorem dX4_saying_31 : decode cX4_saying 31 = .ok (.iload_n 1, 1) := by decide +kernel
theorem dX4_saying_32 : decode cX4_saying 32 = .ok (.iand, 1) := by decide +kernel
theorem dX4_saying_33 : decode cX4_saying 33 = .ok (.ifCond .ne 6, 3) := by decide +kernel
theorem dX4_saying_36 : decode cX4_saying 36 = .ok (.iload 4, 2) := by decide +kernel
theorem dX4_saying_38 : decode cX4_saying 38 = .ok (.istore_n 3, 1) := by decide +kernel
theorem dX4_saying_39 : decode cX4_saying 39 = .ok (.iinc 4 1, 3) := by decide +kernel
theorem dX4_saying_42 : decode cX4_saying 42 = .ok (.goto (-32), 3) := by decide +kernel
theorem dX4_saying_45 : decode cX4_saying 45 = .ok (.aload_n 0, 1) := by decide +kernel
theorem dX4_saying_46 : decode cX4_saying 46 = .ok (.iload_n 2, 1) := by decide +kernel
theorem dX4_saying_47 : decode cX4_saying 47 = .ok (.putfield 48, 3) := by decide +kernel
theorem dX4_saying_50 : decode cX4_saying 50 = .ok (.iload_n 3, 1) := by decide +kernel
theorem dX4_saying_51 : decode cX4_saying 51 = .ok (.ireturn, 1) := by decide +kernel
theorem dX4_will_0 : decode cX4_will 0 = .ok (.aload_n 0, 1) := by decide +kernel
theorem dX4_will_1 : decode cX4_will 1 = .ok (.sipush 511, 3) := by decide +kernel
theorem dX4_will_4 : decode cX4_will 4 = .ok (.invokevirtual 239, 3) := by decide +kernel
theorem dX4_will_7 : decode cX4_will 7 = .ok (.ireturn, 1) := by decide +kernel
theorem dX4_level_0 : decode cX4_level 0 = .ok (.aload_n 0, 1) := by decide +kernel
theorem dX4_level_1 : decode cX4_level 1 = .ok (.iload_n 1, 1) := by decide +kernel
theorem dX4_level_2 : decode cX4_level 2 = .ok (.invokevirtual 118, 3) := by decide +kernel
theorem dX4_level_5 : decode cX4_level 5 = .ok (.ifCond .eq 13, 3) := by decide +kernel
theorem dX4_level_8 : decode cX4_level 8 = .ok (.aload_n 0, 1) := by decide +kernel
theorem dX4_level_9 : decode cX4_level 9 = .ok (.iconst 1, 1) := by decide +kernel
theorem dX4_level_10 : decode cX4_level 10 = .ok (.iload_n 1, 1) := by decide +kernel
theorem dX4_level_11 : decode cX4_level 11 = .ok (.ishl, 1) := by decide +kernel
theorem dX4_level_12 : decode cX4_level 12 = .ok (.invokevirtual 239, 3) := by decide +kernel
theorem dX4_level_15 : decode cX4_level 15 = .ok (.goto 9, 3) := by decide +kernel
theorem dX4_level_18 : decode cX4_level 18 = .ok (.aload_n 0, 1) := by decide +kernel
theorem dX4_level_19 : decode cX4_level 19 = .ok (.bipush (-2), 2) := by decide +kernel
theorem dX4_level_21 : decode cX4_level 21 = .ok (.invokevirtual 69, 3) := by decide +kernel
theorem dX4_level_24 : decode cX4_level 24 = .ok (.ireturn, 1) := by decide +kernel
theorem dX4_spoiling_0 : decode cX4_spoiling 0 = .ok (.aload_n 0, 1) := by decide +kernel
theorem dX4_spoiling_1 : decode cX4_spoiling 1 = .ok (.invokevirtual 217, 3) := by decide +kernel
theorem dX4_spoiling_4 : decode cX4_spoiling 4 = .ok (.invokestatic 96, 3) := by decide +kernel
theorem dX4_spoiling_7 : decode cX4_spoiling 7 = .ok (.istore_n 2, 1) := by decide +kernel
theorem dX4_spoiling_8 : decode cX4_spoiling 8 = .ok (.aload_n 0, 1) := by decide +kernel
theorem dX4_spoiling_9 : decode cX4_spoiling 9 = .ok (.iload_n 1, 1) := by decide +kernel
theorem dX4_spoiling_10 : decode cX4_spoiling 10 = .ok (.putfield 55, 3) := by decide +kernel
theorem dX4_spoiling_13 : decode cX4_spoiling 13 = .ok (.aload_n 0, 1) := by decide +kernel
theorem dX4_spoiling_14 : decode cX4_spoiling 14 = .ok (.invokevirtual 217, 3) := by decide +kernel
theorem dX4_spoiling_17 : decode cX4_spoiling 17 = .ok (.invokestatic 96, 3) := by decide +kernel
theorem dX4_spoiling_20 : decode cX4_spoiling 20 = .ok (.istore_n 3, 1) := by decide +kernel
theorem dX4_spoiling_21 : decode cX4_spoiling 21 = .ok (.aload_n 0, 1) := by decide +kernel
theorem dX4_spoiling_22 : decode cX4_spoiling 22 = .ok (.iconst (-1), 1) := by decide +kernel
theorem dX4_spoiling_23 : decode cX4_spoiling 23 = .ok (.putfield 55, 3) := by decide +kernel
theorem dX4_spoiling_26 : decode cX4_spoiling 26 = .ok (.iload_n 3, 1) := by decide +kernel
theorem dX4_spoiling_27 : decode cX4_spoiling 27 = .ok (.iload_n 2, 1) := by decide +kernel
theorem dX4_spoiling_28 : decode cX4_spoiling 28 = .ok (.isub, 1) := by decide +kernel
theorem dX4_spoiling_29 : decode cX4_spoiling 29 = .ok (.ireturn, 1) := by decide +kernel
theorem dX4_spoils_0 : decode cX4_spoils 0 = .ok (.aload_n 0, 1) := by decide +kernel
theorem dX4_spoils_1 : decode cX4_spoils 1 = .ok (.iload_n 1, 1) := by decide +kernel
theorem dX4_spoils_2 : decode cX4_spoils 2 = .ok (.invokevirtual 80, 3) := by decide +kernel
theorem dX4_spoils_5 : decode cX4_spoils 5 = .ok (.ifCond .eq 11, 3) := by decide +kernel
theorem dX4_spoils_8 : decode cX4_spoils 8 = .ok (.aload_n 0, 1) := by decide +kernel
theorem dX4_spoils_9 : decode cX4_spoils 9 = .ok (.iload_n 1, 1) := by decide +kernel
theorem dX4_spoils_10 : decode cX4_spoils 10 = .ok (.invokevirtual 242, 3) := by decide +kernel
theorem dX4_spoils_13 : decode cX4_spoils 13 = .ok (.goto 9, 3) := by decide +kernel
theorem dX4_spoils_16 : decode cX4_spoils 16 = .ok (.aload_n 0, 1) := by decide +kernel
theorem dX4_spoils_17 : decode cX4_spoils 17 = .ok (.bipush (-2), 2) := by decide +kernel
theorem dX4_spoils_19 : decode cX4_spoils 19 = .ok (.invokevirtual 233, 3) := by decide +kernel
theorem dX4_spoils_22 : decode cX4_spoils 22 = .ok (.ireturn, 1) := by decide +kernel
theorem dX4_spoiler_0 : decode cX4_spoiler 0 = .ok (.aload_n 0, 1) := by decide +kernel
theorem dX4_spoiler_1 : decode cX4_spoiler 1 = .ok (.getfield 59, 3) := by decide +kernel
theorem dX4_spoiler_4 : decode cX4_spoiler 4 = .ok (.ifCond .ne 10, 3) := by decide +kernel
theorem dX4_spoiler_7 : decode cX4_spoiler 7 = .ok (.aload_n 0, 1) := by decide +kernel
theorem dX4_spoiler_8 : decode cX4_spoiler 8 = .ok (.bipush (-5), 2) := by decide +kernel
theorem dX4_spoiler_10 : decode cX4_spoiler 10 = .ok (.invokevirtual 69, 3) := by decide +kernel
theorem dX4_spoiler_13 : decode cX4_spoiler 13 = .ok (.ireturn, 1) := by decide +kernel
theorem dX4_spoiler_14 : decode cX4_spoiler 14 = .ok (.iconst 0, 1) := by decide +kernel
theorem dX4_spoiler_15 : decode cX4_spoiler 15 = .ok (.istore_n 1, 1) := by decide +kernel
theorem dX4_spoiler_16 : decode cX4_spoiler 16 = .ok (.iconst 1, 1) := by decide +kernel
theorem dX4_spoiler_17 : decode cX4_spoiler 17 = .ok (.istore_n 2, 1) := by decide +kernel
theorem dX4_spoiler_18 : decode cX4_spoiler 18 = .ok (.iload_n 2, 1) := by decide +kernel
theorem dX4_spoiler_19 : decode cX4_spoiler 19 = .ok (.aload_n 0, 1) := by decide +kernel
theorem dX4_spoiler_20 : decode cX4_spoiler 20 = .ok (.getfield 59, 3) := by decide +kernel
theorem dX4_spoiler_23 : decode cX4_spoiler 23 = .ok (.if_icmp .ge 24, 3) := by decide +kernel
theorem dX4_spoiler_26 : decode cX4_spoiler 26 = .ok (.aload_n 0, 1) := by decide +kernel
theorem dX4_spoiler_27 : decode cX4_spoiler 27 = .ok (.iload_n 2, 1) := by decide +kernel
theorem dX4_spoiler_28 : decode cX4_spoiler 28 = .ok (.invokevirtual 242, 3) := by decide +kernel
theorem dX4_spoiler_31 : decode cX4_spoiler 31 = .ok (.aload_n 0, 1) := by decide +kernel
theorem dX4_spoiler_32 : decode cX4_spoiler 32 = .ok (.iload_n 1, 1) := by decide +kernel
theorem dX4_spoiler_33 : decode cX4_spoiler 33 = .ok (.invokevirtual 242, 3) := by decide +kernel
theorem dX4_spoiler_36 : decode cX4_spoiler 36 = .ok (.if_icmp .le 5, 3) := by decide +kernel
theorem dX4_spoiler_39 : decode cX4_spoiler 39 = .ok (.iload_n 2, 1) := by decide +kernel
theorem dX4_spoiler_40 : decode cX4_spoiler 40 = .ok (.istore_n 1, 1) := by decide +kernel
theorem dX4_spoiler_41 : decode cX4_spoiler 41 = .ok (.iinc 2 1, 3) := by decide +kernel
theorem dX4_spoiler_44 : decode cX4_spoiler 44 = .ok (.goto (-26), 3) := by decide +kernel
theorem dX4_spoiler_47 : decode cX4_spoiler 47 = .ok (.iload_n 1, 1) := by decide +kernel
theorem dX4_spoiler_48 : decode cX4_spoiler 48 = .ok (.ireturn, 1) := by decide +kernel
theorem dX4_deeper_0 : decode cX4_deeper 0 = .ok (.aload_n 0, 1) := by decide +kernel
theorem dX4_deeper_1 : decode cX4_deeper 1 = .ok (.iload_n 1, 1) := by decide +kernel
theorem dX4_deeper_2 : decode cX4_deeper 2 = .ok (.invokevirtual 80, 3) := by decide +kernel
theorem dX4_deeper_5 : decode cX4_deeper 5 = .ok (.ifCond .eq 11, 3) := by decide +kernel
theorem dX4_deeper_8 : decode cX4_deeper 8 = .ok (.aload_n 0, 1) := by decide +kernel
theorem dX4_deeper_9 : decode cX4_deeper 9 = .ok (.iload_n 2, 1) := by decide +kernel
theorem dX4_deeper_10 : decode cX4_deeper 10 = .ok (.invokevirtual 118, 3) := by decide +kernel
theorem dX4_deeper_13 : decode cX4_deeper 13 = .ok (.ifCond .ne 10, 3) := by decide +kernel
theorem dX4_deeper_16 : decode cX4_deeper 16 = .ok (.aload_n 0, 1) := by decide +kernel
theorem dX4_deeper_17 : decode cX4_deeper 17 = .ok (.bipush (-2), 2) := by decide +kernel
theorem dX4_deeper_19 : decode cX4_deeper 19 = .ok (.invokevirtual 69, 3) := by decide +kernel
theorem dX4_deeper_22 : decode cX4_deeper 22 = .ok (.ireturn, 1) := by decide +kernel
theorem dX4_deeper_23 : decode cX4_deeper 23 = .ok (.aload_n 0, 1) := by decide +kernel
theorem dX4_deeper_24 : decode cX4_deeper 24 = .ok (.getfield 26, 3) := by decide +kernel
theorem dX4_deeper_27 : decode cX4_deeper 27 = .ok (.iload_n 1, 1) := by decide +kernel
theorem dX4_deeper_28 : decode cX4_deeper 28 = .ok (.iaload, 1) := by decide +kernel
theorem dX4_deeper_29 : decode cX4_deeper 29 = .ok (.istore_n 3, 1) := by decide +kernel
theorem dX4_deeper_30 : decode cX4_deeper 30 = .ok (.iconst (-1), 1) := by decide +kernel
theorem dX4_deeper_31 : decode cX4_deeper 31 = .ok (.istore 4, 2) := by decide +kernel
theorem dX4_deeper_33 : decode cX4_deeper 33 = .ok (.iconst 0, 1) := by decide +kernel
theorem dX4_deeper_34 : decode cX4_deeper 34 = .ok (.istore 5, 2) := by decide +kernel
theorem dX4_deeper_36 : decode cX4_deeper 36 = .ok (.iload 5, 2) := by decide +kernel
theorem dX4_deeper_38 : decode cX4_deeper 38 = .ok (.bipush 10, 2) := by decide +kernel
theorem dX4_deeper_40 : decode cX4_deeper 40 = .ok (.if_icmp .ge 35, 3) := by decide +kernel
theorem dX4_deeper_43 : decode cX4_deeper 43 = .ok (.iload 4, 2) := by decide +kernel
theorem dX4_deeper_45 : decode cX4_deeper 45 = .ok (.ifCond .ge 30, 3) := by decide +kernel
theorem dX4_deeper_48 : decode cX4_deeper 48 = .ok (.aload_n 0, 1) := by decide +kernel
theorem dX4_deeper_49 : decode cX4_deeper 49 = .ok (.getfield 26, 3) := by decide +kernel
theorem dX4_deeper_52 : decode cX4_deeper 52 = .ok (.iload_n 1, 1) := by decide +kernel
theorem dX4_deeper_53 : decode cX4_deeper 53 = .ok (.iload 5, 2) := by decide +kernel
theorem dX4_deeper_55 : decode cX4_deeper 55 = .ok (.iastore, 1) := by decide +kernel
theorem dX4_deeper_56 : decode cX4_deeper 56 = .ok (.aload_n 0, 1) := by decide +kernel
theorem dX4_deeper_57 : decode cX4_deeper 57 = .ok (.iload_n 1, 1) := by decide +kernel
theorem dX4_deeper_58 : decode cX4_deeper 58 = .ok (.iload_n 2, 1) := by decide +kernel
theorem dX4_deeper_59 : decode cX4_deeper 59 = .ok (.invokevirtual 105, 3) := by decide +kernel
theorem dX4_deeper_62 : decode cX4_deeper 62 = .ok (.ifCond .eq 7, 3) := by decide +kernel
theorem dX4_deeper_65 : decode cX4_deeper 65 = .ok (.iload 5, 2) := by decide +kernel
theorem dX4_deeper_67 : decode cX4_deeper 67 = .ok (.istore 4, 2) := by decide +kernel
theorem dX4_deeper_69 : decode cX4_deeper 69 = .ok (.iinc 5 1, 3) := by decide +kernel
theorem dX4_deeper_72 : decode cX4_deeper 72 = .ok (.goto (-36), 3) := by decide +kernel
theorem dX4_deeper_75 : decode cX4_deeper 75 = .ok (.aload_n 0, 1) := by decide +kernel
theorem dX4_deeper_76 : decode cX4_deeper 76 = .ok (.getfield 26, 3) := by decide +kernel
theorem dX4_deeper_79 : decode cX4_deeper 79 = .ok (.iload_n 1, 1) := by decide +kernel
theorem dX4_deeper_80 : decode cX4_deeper 80 = .ok (.iload_n 3, 1) := by decide +kernel
theorem dX4_deeper_81 : decode cX4_deeper 81 = .ok (.iastore, 1) := by decide +kernel
theorem dX4_deeper_82 : decode cX4_deeper 82 = .ok (.iload 4, 2) := by decide +kernel
theorem dX4_deeper_84 : decode cX4_deeper 84 = .ok (.ireturn, 1) := by decide +kernel
theorem dX4_foreseesIt_0 : decode cX4_foreseesIt 0 = .ok (.iload_n 1, 1) := by decide +kernel
theorem dX4_foreseesIt_1 : decode cX4_foreseesIt 1 = .ok (.iload_n 2, 1) := by decide +kernel
theorem dX4_foreseesIt_2 : decode cX4_foreseesIt 2 = .ok (.if_icmp .eq 40, 3) := by decide +kernel
theorem dX4_foreseesIt_5 : decode cX4_foreseesIt 5 = .ok (.aload_n 0, 1) := by decide +kernel
theorem dX4_foreseesIt_6 : decode cX4_foreseesIt 6 = .ok (.getfield 23, 3) := by decide +kernel
theorem dX4_foreseesIt_9 : decode cX4_foreseesIt 9 = .ok (.iload_n 2, 1) := by decide +kernel
theorem dX4_foreseesIt_10 : decode cX4_foreseesIt 10 = .ok (.iaload, 1) := by decide +kernel
theorem dX4_foreseesIt_11 : decode cX4_foreseesIt 11 = .ok (.iconst 2, 1) := by decide +kernel
theorem dX4_foreseesIt_12 : decode cX4_foreseesIt 12 = .ok (.if_icmp .eq 30, 3) := by decide +kernel
theorem dX4_foreseesIt_15 : decode cX4_foreseesIt 15 = .ok (.aload_n 0, 1) := by decide +kernel
theorem dX4_foreseesIt_16 : decode cX4_foreseesIt 16 = .ok (.getfield 23, 3) := by decide +kernel
theorem dX4_foreseesIt_19 : decode cX4_foreseesIt 19 = .ok (.iload_n 2, 1) := by decide +kernel
theorem dX4_foreseesIt_20 : decode cX4_foreseesIt 20 = .ok (.iaload, 1) := by decide +kernel
theorem dX4_foreseesIt_21 : decode cX4_foreseesIt 21 = .ok (.iconst 5, 1) := by decide +kernel
theorem dX4_foreseesIt_22 : decode cX4_foreseesIt 22 = .ok (.if_icmp .eq 20, 3) := by decide +kernel
theorem dX4_foreseesIt_25 : decode cX4_foreseesIt 25 = .ok (.aload_n 0, 1) := by decide +kernel
theorem dX4_foreseesIt_26 : decode cX4_foreseesIt 26 = .ok (.iload_n 2, 1) := by decide +kernel
theorem dX4_foreseesIt_27 : decode cX4_foreseesIt 27 = .ok (.invokevirtual 108, 3) := by decide +kernel
theorem dX4_foreseesIt_30 : decode cX4_foreseesIt 30 = .ok (.aload_n 0, 1) := by decide +kernel
theorem dX4_foreseesIt_31 : decode cX4_foreseesIt 31 = .ok (.iload_n 1, 1) := by decide +kernel
theorem dX4_foreseesIt_32 : decode cX4_foreseesIt 32 = .ok (.invokevirtual 108, 3) := by decide +kernel
theorem dX4_foreseesIt_35 : decode cX4_foreseesIt 35 = .ok (.if_icmp .ge 7, 3) := by decide +kernel
theorem dX4_foreseesIt_38 : decode cX4_foreseesIt 38 = .ok (.iconst 1, 1) := by decide +kernel
theorem dX4_foreseesIt_39 : decode cX4_foreseesIt 39 = .ok (.goto 4, 3) := by decide +kernel
theorem dX4_foreseesIt_42 : decode cX4_foreseesIt 42 = .ok (.iconst 0, 1) := by decide +kernel
theorem dX4_foreseesIt_43 : decode cX4_foreseesIt 43 = .ok (.ireturn, 1) := by decide +kernel
theorem dX4_foresees_0 : decode cX4_foresees 0 = .ok (.aload_n 0, 1) := by decide +kernel
theorem dX4_foresees_1 : decode cX4_foresees 1 = .ok (.iload_n 1, 1) := by decide +kernel
theorem dX4_foresees_2 : decode cX4_foresees 2 = .ok (.invokevirtual 80, 3) := by decide +kernel
theorem dX4_foresees_5 : decode cX4_foresees 5 = .ok (.ifCond .eq 16, 3) := by decide +kernel
theorem dX4_foresees_8 : decode cX4_foresees 8 = .ok (.aload_n 0, 1) := by decide +kernel
theorem dX4_foresees_9 : decode cX4_foresees 9 = .ok (.iload_n 2, 1) := by decide +kernel
theorem dX4_foresees_10 : decode cX4_foresees 10 = .ok (.invokevirtual 80, 3) := by decide +kernel
theorem dX4_foresees_13 : decode cX4_foresees 13 = .ok (.ifCond .eq 8, 3) := by decide +kernel
theorem dX4_foresees_16 : decode cX4_foresees 16 = .ok (.iload_n 1, 1) := by decide +kernel
theorem dX4_foresees_17 : decode cX4_foresees 17 = .ok (.iload_n 2, 1) := by decide +kernel
theorem dX4_foresees_18 : decode cX4_foresees 18 = .ok (.if_icmp .ne 10, 3) := by decide +kernel
theorem dX4_foresees_21 : decode cX4_foresees 21 = .ok (.aload_n 0, 1) := by decide +kernel
theorem dX4_foresees_22 : decode cX4_foresees 22 = .ok (.bipush (-2), 2) := by decide +kernel
theorem dX4_foresees_24 : decode cX4_foresees 24 = .ok (.invokevirtual 69, 3) := by decide +kernel
theorem dX4_foresees_27 : decode cX4_foresees 27 = .ok (.ireturn, 1) := by decide +kernel
theorem dX4_foresees_28 : decode cX4_foresees 28 = .ok (.aload_n 0, 1) := by decide +kernel
theorem dX4_foresees_29 : decode cX4_foresees 29 = .ok (.iload_n 1, 1) := by decide +kernel
theorem dX4_foresees_30 : decode cX4_foresees 30 = .ok (.iload_n 2, 1) := by decide +kernel
theorem dX4_foresees_31 : decode cX4_foresees 31 = .ok (.invokevirtual 245, 3) := by decide +kernel
theorem dX4_foresees_34 : decode cX4_foresees 34 = .ok (.ifCond .eq 7, 3) := by decide +kernel
theorem dX4_foresees_37 : decode cX4_foresees 37 = .ok (.iconst 1, 1) := by decide +kernel
theorem dX4_foresees_38 : decode cX4_foresees 38 = .ok (.goto 4, 3) := by decide +kernel
theorem dX4_foresees_41 : decode cX4_foresees 41 = .ok (.iconst 0, 1) := by decide +kernel
theorem dX4_foresees_42 : decode cX4_foresees 42 = .ok (.ireturn, 1) := by decide +kernel
theorem dX4_foreseen_0 : decode cX4_foreseen 0 = .ok (.aload_n 0, 1) := by decide +kernel
theorem dX4_foreseen_1 : decode cX4_foreseen 1 = .ok (.iload_n 1, 1) := by decide +kernel
theorem dX4_foreseen_2 : decode cX4_foreseen 2 = .ok (.invokevirtual 80, 3) := by decide +kernel
theorem dX4_foreseen_5 : decode cX4_foreseen 5 = .ok (.ifCond .ne 10, 3) := by decide +kernel
theorem dX4_foreseen_8 : decode cX4_foreseen 8 = .ok (.aload_n 0, 1) := by decide +kernel
theorem dX4_foreseen_9 : decode cX4_foreseen 9 = .ok (.bipush (-2), 2) := by decide +kernel
theorem dX4_foreseen_11 : decode cX4_foreseen 11 = .ok (.invokevirtual 69, 3) := by decide +kernel
theorem dX4_foreseen_14 : decode cX4_foreseen 14 = .ok (.ireturn, 1) := by decide +kernel
theorem dX4_foreseen_15 : decode cX4_foreseen 15 = .ok (.iconst 0, 1) := by decide +kernel
theorem dX4_foreseen_16 : decode cX4_foreseen 16 = .ok (.istore_n 2, 1) := by decide +kernel
theorem dX4_foreseen_17 : decode cX4_foreseen 17 = .ok (.iconst 0, 1) := by decide +kernel
theorem dX4_foreseen_18 : decode cX4_foreseen 18 = .ok (.istore_n 3, 1) := by decide +kernel
theorem dX4_foreseen_19 : decode cX4_foreseen 19 = .ok (.iload_n 3, 1) := by decide +kernel
theorem dX4_foreseen_20 : decode cX4_foreseen 20 = .ok (.aload_n 0, 1) := by decide +kernel
theorem dX4_foreseen_21 : decode cX4_foreseen 21 = .ok (.getfield 59, 3) := by decide +kernel
theorem dX4_foreseen_24 : decode cX4_foreseen 24 = .ok (.if_icmp .ge 24, 3) := by decide +kernel
theorem dX4_foreseen_27 : decode cX4_foreseen 27 = .ok (.aload_n 0, 1) := by decide +kernel
theorem dX4_foreseen_28 : decode cX4_foreseen 28 = .ok (.iload_n 3, 1) := by decide +kernel
theorem dX4_foreseen_29 : decode cX4_foreseen 29 = .ok (.iload_n 1, 1) := by decide +kernel
theorem dX4_foreseen_30 : decode cX4_foreseen 30 = .ok (.invokevirtual 245, 3) := by decide +kernel
theorem dX4_foreseen_33 : decode cX4_foreseen 33 = .ok (.ifCond .eq 9, 3) := by decide +kernel
theorem dX4_foreseen_36 : decode cX4_foreseen 36 = .ok (.iload_n 2, 1) := by decide +kernel
theorem dX4_foreseen_37 : decode cX4_foreseen 37 = .ok (.iconst 1, 1) := by decide +kernel
theorem dX4_foreseen_38 : decode cX4_foreseen 38 = .ok (.iload_n 3, 1) := by decide +kernel
theorem dX4_foreseen_39 : decode cX4_foreseen 39 = .ok (.ishl, 1) := by decide +kernel
theorem dX4_foreseen_40 : decode cX4_foreseen 40 = .ok (.ior, 1) := by decide +kernel
theorem dX4_foreseen_41 : decode cX4_foreseen 41 = .ok (.istore_n 2, 1) := by decide +kernel
theorem dX4_foreseen_42 : decode cX4_foreseen 42 = .ok (.iinc 3 1, 3) := by decide +kernel
theorem dX4_foreseen_45 : decode cX4_foreseen 45 = .ok (.goto (-26), 3) := by decide +kernel
theorem dX4_foreseen_48 : decode cX4_foreseen 48 = .ok (.iload_n 2, 1) := by decide +kernel
theorem dX4_foreseen_49 : decode cX4_foreseen 49 = .ok (.ireturn, 1) := by decide +kernel
theorem dX4_deepest_0 : decode cX4_deepest 0 = .ok (.aload_n 0, 1) := by decide +kernel
theorem dX4_deepest_1 : decode cX4_deepest 1 = .ok (.getfield 59, 3) := by decide +kernel
theorem dX4_deepest_4 : decode cX4_deepest 4 = .ok (.ifCond .ne 10, 3) := by decide +kernel
theorem dX4_deepest_7 : decode cX4_deepest 7 = .ok (.aload_n 0, 1) := by decide +kernel
theorem dX4_deepest_8 : decode cX4_deepest 8 = .ok (.bipush (-5), 2) := by decide +kernel
theorem dX4_deepest_10 : decode cX4_deepest 10 = .ok (.invokevirtual 69, 3) := by decide +kernel
theorem dX4_deepest_13 : decode cX4_deepest 13 = .ok (.ireturn, 1) := by decide +kernel
theorem dX4_deepest_14 : decode cX4_deepest 14 = .ok (.iconst 0, 1) := by decide +kernel
theorem dX4_deepest_15 : decode cX4_deepest 15 = .ok (.istore_n 1, 1) := by decide +kernel
theorem dX4_deepest_16 : decode cX4_deepest 16 = .ok (.iconst 1, 1) := by decide +kernel
theorem dX4_deepest_17 : decode cX4_deepest 17 = .ok (.istore_n 2, 1) := by decide +kernel
theorem dX4_deepest_18 : decode cX4_deepest 18 = .ok (.iload_n 2, 1) := by decide +kernel
theorem dX4_deepest_19 : decode cX4_deepest 19 = .ok (.aload_n 0, 1) := by decide +kernel
theorem dX4_deepest_20 : decode cX4_deepest 20 = .ok (.getfield 59, 3) := by decide +kernel
theorem dX4_deepest_23 : decode cX4_deepest 23 = .ok (.if_icmp .ge 24, 3) := by decide +kernel
theorem dX4_deepest_26 : decode cX4_deepest 26 = .ok (.aload_n 0, 1) := by decide +kernel
theorem dX4_deepest_27 : decode cX4_deepest 27 = .ok (.iload_n 2, 1) := by decide +kernel
theorem dX4_deepest_28 : decode cX4_deepest 28 = .ok (.invokevirtual 108, 3) := by decide +kernel
theorem dX4_deepest_31 : decode cX4_deepest 31 = .ok (.aload_n 0, 1) := by decide +kernel
theorem dX4_deepest_32 : decode cX4_deepest 32 = .ok (.iload_n 1, 1) := by decide +kernel
theorem dX4_deepest_33 : decode cX4_deepest 33 = .ok (.invokevirtual 108, 3) := by decide +kernel
theorem dX4_deepest_36 : decode cX4_deepest 36 = .ok (.if_icmp .le 5, 3) := by decide +kernel
theorem dX4_deepest_39 : decode cX4_deepest 39 = .ok (.iload_n 2, 1) := by decide +kernel
theorem dX4_deepest_40 : decode cX4_deepest 40 = .ok (.istore_n 1, 1) := by decide +kernel
theorem dX4_deepest_41 : decode cX4_deepest 41 = .ok (.iinc 2 1, 3) := by decide +kernel
theorem dX4_deepest_44 : decode cX4_deepest 44 = .ok (.goto (-26), 3) := by decide +kernel
theorem dX4_deepest_47 : decode cX4_deepest 47 = .ok (.iload_n 1, 1) := by decide +kernel
theorem dX4_deepest_48 : decode cX4_deepest 48 = .ok (.ireturn, 1) := by decide +kernel
theorem dX4_asleep_0 : decode cX4_asleep 0 = .ok (.aload_n 0, 1) := by decide +kernel
theorem dX4_asleep_1 : decode cX4_asleep 1 = .ok (.iload_n 1, 1) := by decide +kernel
theorem dX4_asleep_2 : decode cX4_asleep 2 = .ok (.invokevirtual 118, 3) := by decide +kernel
theorem dX4_asleep_5 : decode cX4_asleep 5 = .ok (.ifCond .ne 10, 3) := by decide +kernel
theorem dX4_asleep_8 : decode cX4_asleep 8 = .ok (.aload_n 0, 1) := by decide +kernel
theorem dX4_asleep_9 : decode cX4_asleep 9 = .ok (.bipush (-2), 2) := by decide +kernel
theorem dX4_asleep_11 : decode cX4_asleep 11 = .ok (.invokevirtual 69, 3) := by decide +kernel
theorem dX4_asleep_14 : decode cX4_asleep 14 = .ok (.ireturn, 1) := by decide +kernel
theorem dX4_asleep_15 : decode cX4_asleep 15 = .ok (.iconst 0, 1) := by decide +kernel
theorem dX4_asleep_16 : decode cX4_asleep 16 = .ok (.istore_n 2, 1) := by decide +kernel
theorem dX4_asleep_17 : decode cX4_asleep 17 = .ok (.iconst 0, 1) := by decide +kernel
theorem dX4_asleep_18 : decode cX4_asleep 18 = .ok (.istore_n 3, 1) := by decide +kernel
theorem dX4_asleep_19 : decode cX4_asleep 19 = .ok (.iload_n 3, 1) := by decide +kernel
theorem dX4_asleep_20 : decode cX4_asleep 20 = .ok (.aload_n 0, 1) := by decide +kernel
theorem dX4_asleep_21 : decode cX4_asleep 21 = .ok (.getfield 59, 3) := by decide +kernel
theorem dX4_asleep_24 : decode cX4_asleep 24 = .ok (.if_icmp .ge 24, 3) := by decide +kernel
theorem dX4_asleep_27 : decode cX4_asleep 27 = .ok (.aload_n 0, 1) := by decide +kernel
theorem dX4_asleep_28 : decode cX4_asleep 28 = .ok (.iload_n 3, 1) := by decide +kernel
theorem dX4_asleep_29 : decode cX4_asleep 29 = .ok (.iload_n 1, 1) := by decide +kernel
theorem dX4_asleep_30 : decode cX4_asleep 30 = .ok (.invokevirtual 90, 3) := by decide +kernel
theorem dX4_asleep_33 : decode cX4_asleep 33 = .ok (.ifCond .eq 9, 3) := by decide +kernel
theorem dX4_asleep_36 : decode cX4_asleep 36 = .ok (.iload_n 2, 1) := by decide +kernel
theorem dX4_asleep_37 : decode cX4_asleep 37 = .ok (.iconst 1, 1) := by decide +kernel
theorem dX4_asleep_38 : decode cX4_asleep 38 = .ok (.iload_n 3, 1) := by decide +kernel
theorem dX4_asleep_39 : decode cX4_asleep 39 = .ok (.ishl, 1) := by decide +kernel
theorem dX4_asleep_40 : decode cX4_asleep 40 = .ok (.ior, 1) := by decide +kernel
theorem dX4_asleep_41 : decode cX4_asleep 41 = .ok (.istore_n 2, 1) := by decide +kernel
theorem dX4_asleep_42 : decode cX4_asleep 42 = .ok (.iinc 3 1, 3) := by decide +kernel
theorem dX4_asleep_45 : decode cX4_asleep 45 = .ok (.goto (-26), 3) := by decide +kernel
theorem dX4_asleep_48 : decode cX4_asleep 48 = .ok (.iload_n 2, 1) := by decide +kernel
theorem dX4_asleep_49 : decode cX4_asleep 49 = .ok (.ireturn, 1) := by decide +kernel
theorem dX4_crowd_0 : decode cX4_crowd 0 = .ok (.iload_n 1, 1) := by decide +kernel
theorem dX4_crowd_1 : decode cX4_crowd 1 = .ok (.iconst 0, 1) := by decide +kernel
theorem dX4_crowd_2 : decode cX4_crowd 2 = .ok (.iconst 5, 1) := by decide +kernel
theorem dX4_crowd_3 : decode cX4_crowd 3 = .ok (.invokestatic 62, 3) := by decide +kernel
theorem dX4_crowd_6 : decode cX4_crowd 6 = .ok (.ifCond .ne 10, 3) := by decide +kernel
theorem dX4_crowd_9 : decode cX4_crowd 9 = .ok (.aload_n 0, 1) := by decide +kernel
theorem dX4_crowd_10 : decode cX4_crowd 10 = .ok (.bipush (-2), 2) := by decide +kernel
theorem dX4_crowd_12 : decode cX4_crowd 12 = .ok (.invokevirtual 69, 3) := by decide +kernel
theorem dX4_crowd_15 : decode cX4_crowd 15 = .ok (.ireturn, 1) := by decide +kernel
theorem dX4_crowd_16 : decode cX4_crowd 16 = .ok (.aload_n 0, 1) := by decide +kernel
theorem dX4_crowd_17 : decode cX4_crowd 17 = .ok (.aload_n 0, 1) := by decide +kernel
theorem dX4_crowd_18 : decode cX4_crowd 18 = .ok (.getfield 38, 3) := by decide +kernel
theorem dX4_crowd_21 : decode cX4_crowd 21 = .ok (.invokevirtual 174, 3) := by decide +kernel
theorem dX4_crowd_24 : decode cX4_crowd 24 = .ok (.iconst 0, 1) := by decide +kernel
theorem dX4_crowd_25 : decode cX4_crowd 25 = .ok (.istore_n 2, 1) := by decide +kernel
theorem dX4_crowd_26 : decode cX4_crowd 26 = .ok (.iload_n 2, 1) := by decide +kernel
theorem dX4_crowd_27 : decode cX4_crowd 27 = .ok (.aload_n 0, 1) := by decide +kernel
theorem dX4_crowd_28 : decode cX4_crowd 28 = .ok (.getfield 59, 3) := by decide +kernel
theorem dX4_crowd_31 : decode cX4_crowd 31 = .ok (.if_icmp .ge 16, 3) := by decide +kernel
theorem dX4_crowd_34 : decode cX4_crowd 34 = .ok (.aload_n 0, 1) := by decide +kernel
theorem dX4_crowd_35 : decode cX4_crowd 35 = .ok (.getfield 23, 3) := by decide +kernel
theorem dX4_crowd_38 : decode cX4_crowd 38 = .ok (.iload_n 2, 1) := by decide +kernel
theorem dX4_crowd_39 : decode cX4_crowd 39 = .ok (.iload_n 1, 1) := by decide +kernel
theorem dX4_crowd_40 : decode cX4_crowd 40 = .ok (.iastore, 1) := by decide +kernel
theorem dX4_crowd_41 : decode cX4_crowd 41 = .ok (.iinc 2 1, 3) := by decide +kernel
theorem dX4_crowd_44 : decode cX4_crowd 44 = .ok (.goto (-18), 3) := by decide +kernel
theorem dX4_crowd_47 : decode cX4_crowd 47 = .ok (.aload_n 0, 1) := by decide +kernel
theorem dX4_crowd_48 : decode cX4_crowd 48 = .ok (.invokevirtual 217, 3) := by decide +kernel
theorem dX4_crowd_51 : decode cX4_crowd 51 = .ok (.istore_n 2, 1) := by decide +kernel
theorem dX4_crowd_52 : decode cX4_crowd 52 = .ok (.aload_n 0, 1) := by decide +kernel
theorem dX4_crowd_53 : decode cX4_crowd 53 = .ok (.aload_n 0, 1) := by decide +kernel
theorem dX4_crowd_54 : decode cX4_crowd 54 = .ok (.getfield 38, 3) := by decide +kernel
theorem dX4_crowd_57 : decode cX4_crowd 57 = .ok (.invokevirtual 182, 3) := by decide +kernel
theorem dX4_crowd_60 : decode cX4_crowd 60 = .ok (.iload_n 2, 1) := by decide +kernel
theorem dX4_crowd_61 : decode cX4_crowd 61 = .ok (.ireturn, 1) := by decide +kernel
theorem dX4_longest_0 : decode cX4_longest 0 = .ok (.aload_n 0, 1) := by decide +kernel
theorem dX4_longest_1 : decode cX4_longest 1 = .ok (.invokevirtual 217, 3) := by decide +kernel
theorem dX4_longest_4 : decode cX4_longest 4 = .ok (.istore_n 1, 1) := by decide +kernel
theorem dX4_longest_5 : decode cX4_longest 5 = .ok (.iconst 0, 1) := by decide +kernel
theorem dX4_longest_6 : decode cX4_longest 6 = .ok (.istore_n 2, 1) := by decide +kernel
theorem dX4_longest_7 : decode cX4_longest 7 = .ok (.iload_n 1, 1) := by decide +kernel
theorem dX4_longest_8 : decode cX4_longest 8 = .ok (.ifCond .eq 15, 3) := by decide +kernel
theorem dX4_longest_11 : decode cX4_longest 11 = .ok (.iload_n 1, 1) := by decide +kernel
theorem dX4_longest_12 : decode cX4_longest 12 = .ok (.iload_n 1, 1) := by decide +kernel
theorem dX4_longest_13 : decode cX4_longest 13 = .ok (.iconst 1, 1) := by decide +kernel
theorem dX4_longest_14 : decode cX4_longest 14 = .ok (.ishr, 1) := by decide +kernel
theorem dX4_longest_15 : decode cX4_longest 15 = .ok (.iand, 1) := by decide +kernel
theorem dX4_longest_16 : decode cX4_longest 16 = .ok (.istore_n 1, 1) := by decide +kernel
theorem dX4_longest_17 : decode cX4_longest 17 = .ok (.iinc 2 1, 3) := by decide +kernel
theorem dX4_longest_20 : decode cX4_longest 20 = .ok (.goto (-13), 3) := by decide +kernel
theorem dX4_longest_23 : decode cX4_longest 23 = .ok (.iload_n 2, 1) := by decide +kernel
theorem dX4_longest_24 : decode cX4_longest 24 = .ok (.ireturn, 1) := by decide +kernel
theorem dX4_leave_0 : decode cX4_leave 0 = .ok (.aload_n 0, 1) := by decide +kernel
theorem dX4_leave_1 : decode cX4_leave 1 = .ok (.getfield 59, 3) := by decide +kernel
theorem dX4_leave_4 : decode cX4_leave 4 = .ok (.ifCond .ne 10, 3) := by decide +kernel
theorem dX4_leave_7 : decode cX4_leave 7 = .ok (.aload_n 0, 1) := by decide +kernel
theorem dX4_leave_8 : decode cX4_leave 8 = .ok (.bipush (-5), 2) := by decide +kernel
theorem dX4_leave_10 : decode cX4_leave 10 = .ok (.invokevirtual 69, 3) := by decide +kernel
theorem dX4_leave_13 : decode cX4_leave 13 = .ok (.ireturn, 1) := by decide +kernel
theorem dX4_leave_14 : decode cX4_leave 14 = .ok (.aload_n 0, 1) := by decide +kernel
theorem dX4_leave_15 : decode cX4_leave 15 = .ok (.dup, 1) := by decide +kernel
theorem dX4_leave_16 : decode cX4_leave 16 = .ok (.getfield 59, 3) := by decide +kernel
theorem dX4_leave_19 : decode cX4_leave 19 = .ok (.iconst 1, 1) := by decide +kernel
theorem dX4_leave_20 : decode cX4_leave 20 = .ok (.isub, 1) := by decide +kernel
theorem dX4_leave_21 : decode cX4_leave 21 = .ok (.putfield 59, 3) := by decide +kernel
theorem dX4_leave_24 : decode cX4_leave 24 = .ok (.iconst 0, 1) := by decide +kernel
theorem dX4_leave_25 : decode cX4_leave 25 = .ok (.istore_n 1, 1) := by decide +kernel
theorem dX4_leave_26 : decode cX4_leave 26 = .ok (.iload_n 1, 1) := by decide +kernel
theorem dX4_leave_27 : decode cX4_leave 27 = .ok (.bipush 8, 2) := by decide +kernel
theorem dX4_leave_29 : decode cX4_leave 29 = .ok (.if_icmp .ge 32, 3) := by decide +kernel
theorem dX4_leave_32 : decode cX4_leave 32 = .ok (.aload_n 0, 1) := by decide +kernel
theorem dX4_leave_33 : decode cX4_leave 33 = .ok (.getfield 7, 3) := by decide +kernel
theorem dX4_leave_36 : decode cX4_leave 36 = .ok (.iload_n 1, 1) := by decide +kernel
theorem dX4_leave_37 : decode cX4_leave 37 = .ok (.iaload, 1) := by decide +kernel
theorem dX4_leave_38 : decode cX4_leave 38 = .ok (.bipush 10, 2) := by decide +kernel
theorem dX4_leave_40 : decode cX4_leave 40 = .ok (.aload_n 0, 1) := by decide +kernel
theorem dX4_leave_41 : decode cX4_leave 41 = .ok (.getfield 59, 3) := by decide +kernel
theorem dX4_leave_44 : decode cX4_leave 44 = .ok (.iadd, 1) := by decide +kernel
theorem dX4_leave_45 : decode cX4_leave 45 = .ok (.if_icmp .ne 10, 3) := by decide +kernel
theorem dX4_leave_48 : decode cX4_leave 48 = .ok (.aload_n 0, 1) := by decide +kernel
theorem dX4_leave_49 : decode cX4_leave 49 = .ok (.getfield 7, 3) := by decide +kernel
theorem dX4_leave_52 : decode cX4_leave 52 = .ok (.iload_n 1, 1) := by decide +kernel
theorem dX4_leave_53 : decode cX4_leave 53 = .ok (.iconst (-1), 1) := by decide +kernel
theorem dX4_leave_54 : decode cX4_leave 54 = .ok (.iastore, 1) := by decide +kernel
theorem dX4_leave_55 : decode cX4_leave 55 = .ok (.iinc 1 1, 3) := by decide +kernel
theorem dX4_leave_58 : decode cX4_leave 58 = .ok (.goto (-32), 3) := by decide +kernel
theorem dX4_leave_61 : decode cX4_leave 61 = .ok (.aload_n 0, 1) := by decide +kernel
theorem dX4_leave_62 : decode cX4_leave 62 = .ok (.getfield 59, 3) := by decide +kernel
theorem dX4_leave_65 : decode cX4_leave 65 = .ok (.ireturn, 1) := by decide +kernel
theorem dX4_by_0 : decode cX4_by 0 = .ok (.aload_n 0, 1) := by decide +kernel
theorem dX4_by_1 : decode cX4_by 1 = .ok (.iload_n 1, 1) := by decide +kernel
theorem dX4_by_2 : decode cX4_by 2 = .ok (.invokevirtual 118, 3) := by decide +kernel
theorem dX4_by_5 : decode cX4_by 5 = .ok (.ifCond .ne 10, 3) := by decide +kernel
theorem dX4_by_8 : decode cX4_by 8 = .ok (.aload_n 0, 1) := by decide +kernel
theorem dX4_by_9 : decode cX4_by 9 = .ok (.bipush (-2), 2) := by decide +kernel
theorem dX4_by_11 : decode cX4_by 11 = .ok (.invokevirtual 69, 3) := by decide +kernel
theorem dX4_by_14 : decode cX4_by 14 = .ok (.ireturn, 1) := by decide +kernel
theorem dX4_by_15 : decode cX4_by 15 = .ok (.aload_n 0, 1) := by decide +kernel
theorem dX4_by_16 : decode cX4_by 16 = .ok (.aload_n 0, 1) := by decide +kernel
theorem dX4_by_17 : decode cX4_by 17 = .ok (.getfield 111, 3) := by decide +kernel
theorem dX4_by_20 : decode cX4_by 20 = .ok (.invokevirtual 199, 3) := by decide +kernel
theorem dX4_by_23 : decode cX4_by 23 = .ok (.istore_n 2, 1) := by decide +kernel
theorem dX4_by_24 : decode cX4_by 24 = .ok (.iload_n 2, 1) := by decide +kernel
theorem dX4_by_25 : decode cX4_by 25 = .ok (.ifCond .ne 12, 3) := by decide +kernel
theorem dX4_by_28 : decode cX4_by 28 = .ok (.aload_n 0, 1) := by decide +kernel
theorem dX4_by_29 : decode cX4_by 29 = .ok (.bipush (-5), 2) := by decide +kernel
theorem dX4_by_31 : decode cX4_by 31 = .ok (.invokevirtual 69, 3) := by decide +kernel
theorem dX4_by_34 : decode cX4_by 34 = .ok (.goto 22, 3) := by decide +kernel
theorem dX4_by_37 : decode cX4_by 37 = .ok (.ldc 220, 2) := by decide +kernel
theorem dX4_by_39 : decode cX4_by 39 = .ok (.aload_n 0, 1) := by decide +kernel
theorem dX4_by_40 : decode cX4_by 40 = .ok (.aload_n 0, 1) := by decide +kernel
theorem dX4_by_41 : decode cX4_by 41 = .ok (.getfield 111, 3) := by decide +kernel
theorem dX4_by_44 : decode cX4_by 44 = .ok (.iconst 2, 1) := by decide +kernel
theorem dX4_by_45 : decode cX4_by 45 = .ok (.iload_n 1, 1) := by decide +kernel
theorem dX4_by_46 : decode cX4_by 46 = .ok (.ishl, 1) := by decide +kernel
theorem dX4_by_47 : decode cX4_by 47 = .ok (.iconst 1, 1) := by decide +kernel
theorem dX4_by_48 : decode cX4_by 48 = .ok (.isub, 1) := by decide +kernel
theorem dX4_by_49 : decode cX4_by 49 = .ok (.iand, 1) := by decide +kernel
theorem dX4_by_50 : decode cX4_by 50 = .ok (.invokevirtual 199, 3) := by decide +kernel
theorem dX4_by_53 : decode cX4_by 53 = .ok (.imul, 1) := by decide +kernel
theorem dX4_by_54 : decode cX4_by 54 = .ok (.iload_n 2, 1) := by decide +kernel
theorem dX4_by_55 : decode cX4_by 55 = .ok (.idiv, 1) := by decide +kernel
theorem dX4_by_56 : decode cX4_by 56 = .ok (.ireturn, 1) := by decide +kernel
theorem dX4_mean_0 : decode cX4_mean 0 = .ok (.aload_n 0, 1) := by decide +kernel
theorem dX4_mean_1 : decode cX4_mean 1 = .ok (.aload_n 0, 1) := by decide +kernel
theorem dX4_mean_2 : decode cX4_mean 2 = .ok (.getfield 111, 3) := by decide +kernel
theorem dX4_mean_5 : decode cX4_mean 5 = .ok (.invokevirtual 199, 3) := by decide +kernel
theorem dX4_mean_8 : decode cX4_mean 8 = .ok (.istore_n 1, 1) := by decide +kernel
theorem dX4_mean_9 : decode cX4_mean 9 = .ok (.iload_n 1, 1) := by decide +kernel
theorem dX4_mean_10 : decode cX4_mean 10 = .ok (.ifCond .ne 10, 3) := by decide +kernel
theorem dX4_mean_13 : decode cX4_mean 13 = .ok (.aload_n 0, 1) := by decide +kernel
theorem dX4_mean_14 : decode cX4_mean 14 = .ok (.bipush (-5), 2) := by decide +kernel
theorem dX4_mean_16 : decode cX4_mean 16 = .ok (.invokevirtual 69, 3) := by decide +kernel
theorem dX4_mean_19 : decode cX4_mean 19 = .ok (.ireturn, 1) := by decide +kernel
theorem dX4_mean_20 : decode cX4_mean 20 = .ok (.iconst 0, 1) := by decide +kernel
theorem dX4_mean_21 : decode cX4_mean 21 = .ok (.istore_n 2, 1) := by decide +kernel
theorem dX4_mean_22 : decode cX4_mean 22 = .ok (.iconst 0, 1) := by decide +kernel
theorem dX4_mean_23 : decode cX4_mean 23 = .ok (.istore_n 3, 1) := by decide +kernel
theorem dX4_mean_24 : decode cX4_mean 24 = .ok (.iload_n 3, 1) := by decide +kernel
theorem dX4_mean_25 : decode cX4_mean 25 = .ok (.aload_n 0, 1) := by decide +kernel
theorem dX4_mean_26 : decode cX4_mean 26 = .ok (.getfield 66, 3) := by decide +kernel
theorem dX4_mean_29 : decode cX4_mean 29 = .ok (.if_icmp .ge 31, 3) := by decide +kernel
theorem dX4_mean_32 : decode cX4_mean 32 = .ok (.aload_n 0, 1) := by decide +kernel
theorem dX4_mean_33 : decode cX4_mean 33 = .ok (.getfield 111, 3) := by decide +kernel
theorem dX4_mean_36 : decode cX4_mean 36 = .ok (.iload_n 3, 1) := by decide +kernel
theorem dX4_mean_37 : decode cX4_mean 37 = .ok (.invokestatic 121, 3) := by decide +kernel
theorem dX4_mean_40 : decode cX4_mean 40 = .ok (.ifCond .eq 14, 3) := by decide +kernel
theorem dX4_mean_43 : decode cX4_mean 43 = .ok (.iload_n 2, 1) := by decide +kernel
theorem dX4_mean_44 : decode cX4_mean 44 = .ok (.iload_n 3, 1) := by decide +kernel
theorem dX4_mean_45 : decode cX4_mean 45 = .ok (.aload_n 0, 1) := by decide +kernel
theorem dX4_mean_46 : decode cX4_mean 46 = .ok (.getfield 20, 3) := by decide +kernel
theorem dX4_mean_49 : decode cX4_mean 49 = .ok (.iload_n 3, 1) := by decide +kernel
theorem dX4_mean_50 : decode cX4_mean 50 = .ok (.iaload, 1) := by decide +kernel
theorem dX4_mean_51 : decode cX4_mean 51 = .ok (.imul, 1) := by decide +kernel
theorem dX4_mean_52 : decode cX4_mean 52 = .ok (.iadd, 1) := by decide +kernel
theorem dX4_mean_53 : decode cX4_mean 53 = .ok (.istore_n 2, 1) := by decide +kernel
theorem dX4_mean_54 : decode cX4_mean 54 = .ok (.iinc 3 1, 3) := by decide +kernel
theorem dX4_mean_57 : decode cX4_mean 57 = .ok (.goto (-33), 3) := by decide +kernel
theorem dX4_mean_60 : decode cX4_mean 60 = .ok (.sipush 1000, 3) := by decide +kernel
theorem dX4_mean_63 : decode cX4_mean 63 = .ok (.iload_n 2, 1) := by decide +kernel
theorem dX4_mean_64 : decode cX4_mean 64 = .ok (.imul, 1) := by decide +kernel
theorem dX4_mean_65 : decode cX4_mean 65 = .ok (.iload_n 1, 1) := by decide +kernel
theorem dX4_mean_66 : decode cX4_mean 66 = .ok (.idiv, 1) := by decide +kernel
theorem dX4_mean_67 : decode cX4_mean 67 = .ok (.ireturn, 1) := by decide +kernel
theorem dX4_fair_0 : decode cX4_fair 0 = .ok (.aload_n 0, 1) := by decide +kernel
theorem dX4_fair_1 : decode cX4_fair 1 = .ok (.iload_n 1, 1) := by decide +kernel
theorem dX4_fair_2 : decode cX4_fair 2 = .ok (.invokevirtual 118, 3) := by decide +kernel
theorem dX4_fair_5 : decode cX4_fair 5 = .ok (.ifCond .ne 10, 3) := by decide +kernel
theorem dX4_fair_8 : decode cX4_fair 8 = .ok (.aload_n 0, 1) := by decide +kernel
theorem dX4_fair_9 : decode cX4_fair 9 = .ok (.bipush (-2), 2) := by decide +kernel
theorem dX4_fair_11 : decode cX4_fair 11 = .ok (.invokevirtual 69, 3) := by decide +kernel
theorem dX4_fair_14 : decode cX4_fair 14 = .ok (.ireturn, 1) := by decide +kernel
theorem dX4_fair_15 : decode cX4_fair 15 = .ok (.iconst 1, 1) := by decide +kernel
theorem dX4_fair_16 : decode cX4_fair 16 = .ok (.istore_n 2, 1) := by decide +kernel
theorem dX4_fair_17 : decode cX4_fair 17 = .ok (.iload_n 2, 1) := by decide +kernel
theorem dX4_fair_18 : decode cX4_fair 18 = .ok (.bipush 41, 2) := by decide +kernel
theorem dX4_fair_20 : decode cX4_fair 20 = .ok (.if_icmp .ge 32, 3) := by decide +kernel
theorem dX4_fair_23 : decode cX4_fair 23 = .ok (.aload_n 0, 1) := by decide +kernel
theorem dX4_fair_24 : decode cX4_fair 24 = .ok (.aload_n 0, 1) := by decide +kernel
theorem dX4_fair_25 : decode cX4_fair 25 = .ok (.iload_n 1, 1) := by decide +kernel
theorem dX4_fair_26 : decode cX4_fair 26 = .ok (.invokevirtual 196, 3) := by decide +kernel
theorem dX4_fair_29 : decode cX4_fair 29 = .ok (.invokevirtual 199, 3) := by decide +kernel
theorem dX4_fair_32 : decode cX4_fair 32 = .ok (.ifCond .le 20, 3) := by decide +kernel
theorem dX4_fair_35 : decode cX4_fair 35 = .ok (.aload_n 0, 1) := by decide +kernel
theorem dX4_fair_36 : decode cX4_fair 36 = .ok (.iload_n 1, 1) := by decide +kernel
theorem dX4_fair_37 : decode cX4_fair 37 = .ok (.iload_n 2, 1) := by decide +kernel
theorem dX4_fair_38 : decode cX4_fair 38 = .ok (.invokevirtual 236, 3) := by decide +kernel
theorem dX4_fair_41 : decode cX4_fair 41 = .ok (.ifCond .lt 5, 3) := by decide +kernel
theorem dX4_fair_44 : decode cX4_fair 44 = .ok (.iload_n 2, 1) := by decide +kernel
theorem dX4_fair_45 : decode cX4_fair 45 = .ok (.ireturn, 1) := by decide +kernel
theorem dX4_fair_46 : decode cX4_fair 46 = .ok (.iinc 2 1, 3) := by decide +kernel
theorem dX4_fair_49 : decode cX4_fair 49 = .ok (.goto (-32), 3) := by decide +kernel
theorem dX4_fair_52 : decode cX4_fair 52 = .ok (.iconst (-1), 1) := by decide +kernel
theorem dX4_fair_53 : decode cX4_fair 53 = .ok (.ireturn, 1) := by decide +kernel
theorem dX4_book_0 : decode cX4_book 0 = .ok (.iload_n 1, 1) := by decide +kernel
theorem dX4_book_1 : decode cX4_book 1 = .ok (.iconst 0, 1) := by decide +kernel
theorem dX4_book_2 : decode cX4_book 2 = .ok (.bipush 7, 2) := by decide +kernel
theorem dX4_book_4 : decode cX4_book 4 = .ok (.invokestatic 62, 3) := by decide +kernel
theorem dX4_book_7 : decode cX4_book 7 = .ok (.ifCond .eq 12, 3) := by decide +kernel
theorem dX4_book_10 : decode cX4_book 10 = .ok (.iload_n 2, 1) := by decide +kernel
theorem dX4_book_11 : decode cX4_book 11 = .ok (.iconst 0, 1) := by decide +kernel
theorem dX4_book_12 : decode cX4_book 12 = .ok (.iconst 5, 1) := by decide +kernel
theorem dX4_book_13 : decode cX4_book 13 = .ok (.invokestatic 62, 3) := by decide +kernel
theorem dX4_book_16 : decode cX4_book 16 = .ok (.ifCond .ne 10, 3) := by decide +kernel
theorem dX4_book_19 : decode cX4_book 19 = .ok (.aload_n 0, 1) := by decide +kernel
theorem dX4_book_20 : decode cX4_book 20 = .ok (.bipush (-2), 2) := by decide +kernel
theorem dX4_book_22 : decode cX4_book 22 = .ok (.invokevirtual 233, 3) := by decide +kernel
theorem dX4_book_25 : decode cX4_book 25 = .ok (.ireturn, 1) := by decide +kernel
theorem dX4_book_26 : decode cX4_book 26 = .ok (.aload_n 0, 1) := by decide +kernel
theorem dX4_book_27 : decode cX4_book 27 = .ok (.iload_n 1, 1) := by decide +kernel
theorem dX4_book_28 : decode cX4_book 28 = .ok (.invokevirtual 73, 3) := by decide +kernel
theorem dX4_book_31 : decode cX4_book 31 = .ok (.istore_n 3, 1) := by decide +kernel
theorem dX4_book_32 : decode cX4_book 32 = .ok (.iload_n 3, 1) := by decide +kernel
theorem dX4_book_33 : decode cX4_book 33 = .ok (.ifCond .ge 9, 3) := by decide +kernel
theorem dX4_book_36 : decode cX4_book 36 = .ok (.aload_n 0, 1) := by decide +kernel
theorem dX4_book_37 : decode cX4_book 37 = .ok (.iload_n 3, 1) := by decide +kernel
theorem dX4_book_38 : decode cX4_book 38 = .ok (.invokevirtual 233, 3) := by decide +kernel
theorem dX4_book_41 : decode cX4_book 41 = .ok (.ireturn, 1) := by decide +kernel
theorem dX4_book_42 : decode cX4_book 42 = .ok (.iload_n 2, 1) := by decide +kernel
theorem dX4_book_43 : decode cX4_book 43 = .ok (.aload_n 0, 1) := by decide +kernel
theorem dX4_book_44 : decode cX4_book 44 = .ok (.getfield 13, 3) := by decide +kernel
theorem dX4_book_47 : decode cX4_book 47 = .ok (.iload_n 1, 1) := by decide +kernel
theorem dX4_book_48 : decode cX4_book 48 = .ok (.iaload, 1) := by decide +kernel
theorem dX4_book_49 : decode cX4_book 49 = .ok (.if_icmp .le 10, 3) := by decide +kernel
theorem dX4_book_52 : decode cX4_book 52 = .ok (.aload_n 0, 1) := by decide +kernel
theorem dX4_book_53 : decode cX4_book 53 = .ok (.bipush (-2), 2) := by decide +kernel
theorem dX4_book_55 : decode cX4_book 55 = .ok (.invokevirtual 233, 3) := by decide +kernel
theorem dX4_book_58 : decode cX4_book 58 = .ok (.ireturn, 1) := by decide +kernel
theorem dX4_book_59 : decode cX4_book 59 = .ok (.iconst 0, 1) := by decide +kernel
theorem dX4_book_60 : decode cX4_book 60 = .ok (.istore 4, 2) := by decide +kernel
theorem dX4_book_62 : decode cX4_book 62 = .ok (.iload 4, 2) := by decide +kernel
theorem dX4_book_64 : decode cX4_book 64 = .ok (.iload_n 2, 1) := by decide +kernel
theorem dX4_book_65 : decode cX4_book 65 = .ok (.if_icmp .ge 76, 3) := by decide +kernel
theorem dX4_book_68 : decode cX4_book 68 = .ok (.aload_n 0, 1) := by decide +kernel
theorem dX4_book_69 : decode cX4_book 69 = .ok (.getfield 16, 3) := by decide +kernel
theorem dX4_book_72 : decode cX4_book 72 = .ok (.bipush 40, 2) := by decide +kernel
theorem dX4_book_74 : decode cX4_book 74 = .ok (.iload_n 1, 1) := by decide +kernel
theorem dX4_book_75 : decode cX4_book 75 = .ok (.imul, 1) := by decide +kernel
theorem dX4_book_76 : decode cX4_book 76 = .ok (.iload 4, 2) := by decide +kernel
theorem dX4_book_78 : decode cX4_book 78 = .ok (.iadd, 1) := by decide +kernel
theorem dX4_book_79 : decode cX4_book 79 = .ok (.laload, 1) := by decide +kernel
theorem dX4_book_80 : decode cX4_book 80 = .ok (.lstore 5, 2) := by decide +kernel
theorem dX4_book_82 : decode cX4_book 82 = .ok (.lload 5, 2) := by decide +kernel
theorem dX4_book_84 : decode cX4_book 84 = .ok (.lconst 0, 1) := by decide +kernel
theorem dX4_book_85 : decode cX4_book 85 = .ok (.lcmp, 1) := by decide +kernel
theorem dX4_book_86 : decode cX4_book 86 = .ok (.ifCond .lt 42, 3) := by decide +kernel
theorem dX4_book_89 : decode cX4_book 89 = .ok (.lload 5, 2) := by decide +kernel
theorem dX4_book_91 : decode cX4_book 91 = .ok (.ldc2_w 248, 3) := by decide +kernel
theorem dX4_book_94 : decode cX4_book 94 = .ok (.aload_n 0, 1) := by decide +kernel
theorem dX4_book_95 : decode cX4_book 95 = .ok (.getfield 66, 3) := by decide +kernel
theorem dX4_book_98 : decode cX4_book 98 = .ok (.i2l, 1) := by decide +kernel
theorem dX4_book_99 : decode cX4_book 99 = .ok (.lmul, 1) := by decide +kernel
theorem dX4_book_100 : decode cX4_book 100 = .ok (.lcmp, 1) := by decide +kernel
theorem dX4_book_101 : decode cX4_book 101 = .ok (.ifCond .ge 27, 3) := by decide +kernel
theorem dX4_book_104 : decode cX4_book 104 = .ok (.lload 5, 2) := by decide +kernel
theorem dX4_book_106 : decode cX4_book 106 = .ok (.ldc2_w 248, 3) := by decide +kernel
theorem dX4_book_109 : decode cX4_book 109 = .ok (.lrem, 1) := by decide +kernel
theorem dX4_book_110 : decode cX4_book 110 = .ok (.lconst 1, 1) := by decide +kernel
theorem dX4_book_111 : decode cX4_book 111 = .ok (.lcmp, 1) := by decide +kernel
theorem dX4_book_112 : decode cX4_book 112 = .ok (.ifCond .lt 16, 3) := by decide +kernel
theorem dX4_book_115 : decode cX4_book 115 = .ok (.lload 5, 2) := by decide +kernel
theorem dX4_book_117 : decode cX4_book 117 = .ok (.ldc2_w 248, 3) := by decide +kernel
theorem dX4_book_120 : decode cX4_book 120 = .ok (.lrem, 1) := by decide +kernel
theorem dX4_book_121 : decode cX4_book 121 = .ok (.ldc2_w 250, 3) := by decide +kernel
theorem dX4_book_124 : decode cX4_book 124 = .ok (.lcmp, 1) := by decide +kernel
theorem dX4_book_125 : decode cX4_book 125 = .ok (.ifCond .le 10, 3) := by decide +kernel
theorem dX4_book_128 : decode cX4_book 128 = .ok (.aload_n 0, 1) := by decide +kernel
theorem dX4_book_129 : decode cX4_book 129 = .ok (.bipush (-2), 2) := by decide +kernel
theorem dX4_book_131 : decode cX4_book 131 = .ok (.invokevirtual 233, 3) := by decide +kernel
theorem dX4_book_134 : decode cX4_book 134 = .ok (.ireturn, 1) := by decide +kernel
theorem dX4_book_135 : decode cX4_book 135 = .ok (.iinc 4 1, 3) := by decide +kernel
theorem dX4_book_138 : decode cX4_book 138 = .ok (.goto (-76), 3) := by decide +kernel
theorem dX4_book_141 : decode cX4_book 141 = .ok (.aload_n 0, 1) := by decide +kernel
theorem dX4_book_142 : decode cX4_book 142 = .ok (.aload_n 0, 1) := by decide +kernel
theorem dX4_book_143 : decode cX4_book 143 = .ok (.getfield 111, 3) := by decide +kernel
theorem dX4_book_146 : decode cX4_book 146 = .ok (.invokevirtual 199, 3) := by decide +kernel
theorem dX4_book_149 : decode cX4_book 149 = .ok (.istore 4, 2) := by decide +kernel
theorem dX4_book_151 : decode cX4_book 151 = .ok (.iload 4, 2) := by decide +kernel
theorem dX4_book_153 : decode cX4_book 153 = .ok (.ifCond .ne 10, 3) := by decide +kernel
theorem dX4_book_156 : decode cX4_book 156 = .ok (.aload_n 0, 1) := by decide +kernel
theorem dX4_book_157 : decode cX4_book 157 = .ok (.bipush (-5), 2) := by decide +kernel
theorem dX4_book_159 : decode cX4_book 159 = .ok (.invokevirtual 233, 3) := by decide +kernel
theorem dX4_book_162 : decode cX4_book 162 = .ok (.ireturn, 1) := by decide +kernel
theorem dX4_book_163 : decode cX4_book 163 = .ok (.iconst 0, 1) := by decide +kernel
theorem dX4_book_164 : decode cX4_book 164 = .ok (.istore 5, 2) := by decide +kernel
theorem dX4_book_166 : decode cX4_book 166 = .ok (.iconst 0, 1) := by decide +kernel
theorem dX4_book_167 : decode cX4_book 167 = .ok (.istore 6, 2) := by decide +kernel
theorem dX4_book_169 : decode cX4_book 169 = .ok (.iload 6, 2) := by decide +kernel
theorem dX4_book_171 : decode cX4_book 171 = .ok (.iload_n 2, 1) := by decide +kernel
theorem dX4_book_172 : decode cX4_book 172 = .ok (.if_icmp .ge 89, 3) := by decide +kernel
theorem dX4_book_175 : decode cX4_book 175 = .ok (.aload_n 0, 1) := by decide +kernel
theorem dX4_book_176 : decode cX4_book 176 = .ok (.getfield 16, 3) := by decide +kernel
theorem dX4_book_179 : decode cX4_book 179 = .ok (.bipush 40, 2) := by decide +kernel
theorem dX4_book_181 : decode cX4_book 181 = .ok (.iload_n 1, 1) := by decide +kernel
theorem dX4_book_182 : decode cX4_book 182 = .ok (.imul, 1) := by decide +kernel
theorem dX4_book_183 : decode cX4_book 183 = .ok (.iload 6, 2) := by decide +kernel
theorem dX4_book_185 : decode cX4_book 185 = .ok (.iadd, 1) := by decide +kernel
theorem dX4_book_186 : decode cX4_book 186 = .ok (.laload, 1) := by decide +kernel
theorem dX4_book_187 : decode cX4_book 187 = .ok (.l2i, 1) := by decide +kernel
theorem dX4_book_188 : decode cX4_book 188 = .ok (.bipush 100, 2) := by decide +kernel
theorem dX4_book_190 : decode cX4_book 190 = .ok (.idiv, 1) := by decide +kernel
theorem dX4_book_191 : decode cX4_book 191 = .ok (.istore 7, 2) := by decide +kernel
theorem dX4_book_193 : decode cX4_book 193 = .ok (.aload_n 0, 1) := by decide +kernel
theorem dX4_book_194 : decode cX4_book 194 = .ok (.getfield 16, 3) := by decide +kernel
theorem dX4_book_197 : decode cX4_book 197 = .ok (.bipush 40, 2) := by decide +kernel
theorem dX4_book_199 : decode cX4_book 199 = .ok (.iload_n 1, 1) := by decide +kernel
theorem dX4_book_200 : decode cX4_book 200 = .ok (.imul, 1) := by decide +kernel
theorem dX4_book_201 : decode cX4_book 201 = .ok (.iload 6, 2) := by decide +kernel
theorem dX4_book_203 : decode cX4_book 203 = .ok (.iadd, 1) := by decide +kernel
theorem dX4_book_204 : decode cX4_book 204 = .ok (.laload, 1) := by decide +kernel
theorem dX4_book_205 : decode cX4_book 205 = .ok (.ldc2_w 248, 3) := by decide +kernel
theorem dX4_book_208 : decode cX4_book 208 = .ok (.lrem, 1) := by decide +kernel
theorem dX4_book_209 : decode cX4_book 209 = .ok (.lstore 8, 2) := by decide +kernel
theorem dX4_book_211 : decode cX4_book 211 = .ok (.iload 5, 2) := by decide +kernel
theorem dX4_book_213 : decode cX4_book 213 = .ok (.aload_n 0, 1) := by decide +kernel
theorem dX4_book_214 : decode cX4_book 214 = .ok (.getfield 111, 3) := by decide +kernel
theorem dX4_book_217 : decode cX4_book 217 = .ok (.iload 7, 2) := by decide +kernel
theorem dX4_book_219 : decode cX4_book 219 = .ok (.invokestatic 121, 3) := by decide +kernel
theorem dX4_book_222 : decode cX4_book 222 = .ok (.ifCond .eq 26, 3) := by decide +kernel
theorem dX4_book_225 : decode cX4_book 225 = .ok (.ldc2_w 231, 3) := by decide +kernel
theorem dX4_book_228 : decode cX4_book 228 = .ok (.aload_n 0, 1) := by decide +kernel
theorem dX4_book_229 : decode cX4_book 229 = .ok (.getfield 20, 3) := by decide +kernel
theorem dX4_book_232 : decode cX4_book 232 = .ok (.iload 7, 2) := by decide +kernel
theorem dX4_book_234 : decode cX4_book 234 = .ok (.iaload, 1) := by decide +kernel
theorem dX4_book_235 : decode cX4_book 235 = .ok (.i2l, 1) := by decide +kernel
theorem dX4_book_236 : decode cX4_book 236 = .ok (.lmul, 1) := by decide +kernel
theorem dX4_book_237 : decode cX4_book 237 = .ok (.lload 8, 2) := by decide +kernel
theorem dX4_book_239 : decode cX4_book 239 = .ok (.lmul, 1) := by decide +kernel
theorem dX4_book_240 : decode cX4_book 240 = .ok (.iload 4, 2) := by decide +kernel
theorem dX4_book_242 : decode cX4_book 242 = .ok (.i2l, 1) := by decide +kernel
theorem dX4_book_243 : decode cX4_book 243 = .ok (.ldiv, 1) := by decide +kernel
theorem dX4_book_244 : decode cX4_book 244 = .ok (.l2i, 1) := by decide +kernel
theorem dX4_book_245 : decode cX4_book 245 = .ok (.goto 4, 3) := by decide +kernel
theorem dX4_book_248 : decode cX4_book 248 = .ok (.iconst 0, 1) := by decide +kernel
theorem dX4_book_249 : decode cX4_book 249 = .ok (.ldc 220, 2) := by decide +kernel
theorem dX4_book_251 : decode cX4_book 251 = .ok (.isub, 1) := by decide +kernel
theorem dX4_book_252 : decode cX4_book 252 = .ok (.iadd, 1) := by decide +kernel
theorem dX4_book_253 : decode cX4_book 253 = .ok (.istore 5, 2) := by decide +kernel
theorem dX4_book_255 : decode cX4_book 255 = .ok (.iinc 6 1, 3) := by decide +kernel
theorem dX4_book_258 : decode cX4_book 258 = .ok (.goto (-89), 3) := by decide +kernel
theorem dX4_book_261 : decode cX4_book 261 = .ok (.iload 5, 2) := by decide +kernel
theorem dX4_book_263 : decode cX4_book 263 = .ok (.ireturn, 1) := by decide +kernel
theorem dX4_second_0 : decode cX4_second 0 = .ok (.aload_n 0, 1) := by decide +kernel
theorem dX4_second_1 : decode cX4_second 1 = .ok (.iload_n 1, 1) := by decide +kernel
theorem dX4_second_2 : decode cX4_second 2 = .ok (.invokevirtual 118, 3) := by decide +kernel
theorem dX4_second_5 : decode cX4_second 5 = .ok (.ifCond .eq 13, 3) := by decide +kernel
theorem dX4_second_8 : decode cX4_second 8 = .ok (.iload_n 2, 1) := by decide +kernel
theorem dX4_second_9 : decode cX4_second 9 = .ok (.iconst 0, 1) := by decide +kernel
theorem dX4_second_10 : decode cX4_second 10 = .ok (.bipush 8, 2) := by decide +kernel
theorem dX4_second_12 : decode cX4_second 12 = .ok (.invokestatic 62, 3) := by decide +kernel
theorem dX4_second_15 : decode cX4_second 15 = .ok (.ifCond .ne 10, 3) := by decide +kernel
theorem dX4_second_18 : decode cX4_second 18 = .ok (.aload_n 0, 1) := by decide +kernel
theorem dX4_second_19 : decode cX4_second 19 = .ok (.bipush (-2), 2) := by decide +kernel
theorem dX4_second_21 : decode cX4_second 21 = .ok (.invokevirtual 69, 3) := by decide +kernel
theorem dX4_second_24 : decode cX4_second 24 = .ok (.ireturn, 1) := by decide +kernel
theorem dX4_second_25 : decode cX4_second 25 = .ok (.iconst 0, 1) := by decide +kernel
theorem dX4_second_26 : decode cX4_second 26 = .ok (.istore_n 3, 1) := by decide +kernel
theorem dX4_second_27 : decode cX4_second 27 = .ok (.iconst 0, 1) := by decide +kernel
theorem dX4_second_28 : decode cX4_second 28 = .ok (.istore 4, 2) := by decide +kernel
theorem dX4_second_30 : decode cX4_second 30 = .ok (.iload 4, 2) := by decide +kernel
theorem dX4_second_32 : decode cX4_second 32 = .ok (.aload_n 0, 1) := by decide +kernel
theorem dX4_second_33 : decode cX4_second 33 = .ok (.getfield 66, 3) := by decide +kernel
theorem dX4_second_36 : decode cX4_second 36 = .ok (.if_icmp .ge 36, 3) := by decide +kernel
theorem dX4_second_39 : decode cX4_second 39 = .ok (.aload_n 0, 1) := by decide +kernel
theorem dX4_second_40 : decode cX4_second 40 = .ok (.getfield 111, 3) := by decide +kernel
theorem dX4_second_43 : decode cX4_second 43 = .ok (.iload 4, 2) := by decide +kernel
theorem dX4_second_45 : decode cX4_second 45 = .ok (.invokestatic 121, 3) := by decide +kernel
theorem dX4_second_48 : decode cX4_second 48 = .ok (.ifCond .eq 18, 3) := by decide +kernel
theorem dX4_second_51 : decode cX4_second 51 = .ok (.iload 4, 2) := by decide +kernel
theorem dX4_second_53 : decode cX4_second 53 = .ok (.iload_n 1, 1) := by decide +kernel
theorem dX4_second_54 : decode cX4_second 54 = .ok (.iload_n 2, 1) := by decide +kernel
theorem dX4_second_55 : decode cX4_second 55 = .ok (.isub, 1) := by decide +kernel
theorem dX4_second_56 : decode cX4_second 56 = .ok (.if_icmp .le 10, 3) := by decide +kernel
theorem dX4_second_59 : decode cX4_second 59 = .ok (.iload_n 3, 1) := by decide +kernel
theorem dX4_second_60 : decode cX4_second 60 = .ok (.iconst 1, 1) := by decide +kernel
theorem dX4_second_61 : decode cX4_second 61 = .ok (.iload 4, 2) := by decide +kernel
theorem dX4_second_63 : decode cX4_second 63 = .ok (.ishl, 1) := by decide +kernel
theorem dX4_second_64 : decode cX4_second 64 = .ok (.ior, 1) := by decide +kernel
theorem dX4_second_65 : decode cX4_second 65 = .ok (.istore_n 3, 1) := by decide +kernel
theorem dX4_second_66 : decode cX4_second 66 = .ok (.iinc 4 1, 3) := by decide +kernel
theorem dX4_second_69 : decode cX4_second 69 = .ok (.goto (-39), 3) := by decide +kernel
theorem dX4_second_72 : decode cX4_second 72 = .ok (.iload_n 3, 1) := by decide +kernel
theorem dX4_second_73 : decode cX4_second 73 = .ok (.ireturn, 1) := by decide +kernel
theorem dX4_hints_0 : decode cX4_hints 0 = .ok (.iload_n 1, 1) := by decide +kernel
theorem dX4_hints_1 : decode cX4_hints 1 = .ok (.iconst 0, 1) := by decide +kernel
theorem dX4_hints_2 : decode cX4_hints 2 = .ok (.iconst 1, 1) := by decide +kernel
theorem dX4_hints_3 : decode cX4_hints 3 = .ok (.invokestatic 62, 3) := by decide +kernel
theorem dX4_hints_6 : decode cX4_hints 6 = .ok (.ifCond .ne 10, 3) := by decide +kernel
theorem dX4_hints_9 : decode cX4_hints 9 = .ok (.aload_n 0, 1) := by decide +kernel
theorem dX4_hints_10 : decode cX4_hints 10 = .ok (.bipush (-2), 2) := by decide +kernel
theorem dX4_hints_12 : decode cX4_hints 12 = .ok (.invokevirtual 69, 3) := by decide +kernel
theorem dX4_hints_15 : decode cX4_hints 15 = .ok (.ireturn, 1) := by decide +kernel
theorem dX4_hints_16 : decode cX4_hints 16 = .ok (.aload_n 0, 1) := by decide +kernel
theorem dX4_hints_17 : decode cX4_hints 17 = .ok (.getfield 111, 3) := by decide +kernel
theorem dX4_hints_20 : decode cX4_hints 20 = .ok (.istore_n 2, 1) := by decide +kernel
theorem dX4_hints_21 : decode cX4_hints 21 = .ok (.iconst 0, 1) := by decide +kernel
theorem dX4_hints_22 : decode cX4_hints 22 = .ok (.istore_n 3, 1) := by decide +kernel
theorem dX4_hints_23 : decode cX4_hints 23 = .ok (.iconst (-1), 1) := by decide +kernel
theorem dX4_hints_24 : decode cX4_hints 24 = .ok (.istore 4, 2) := by decide +kernel
theorem dX4_hints_26 : decode cX4_hints 26 = .ok (.iconst 0, 1) := by decide +kernel
theorem dX4_hints_27 : decode cX4_hints 27 = .ok (.istore 5, 2) := by decide +kernel
theorem dX4_hints_29 : decode cX4_hints 29 = .ok (.iload 5, 2) := by decide +kernel
theorem dX4_hints_31 : decode cX4_hints 31 = .ok (.sipush 512, 3) := by decide +kernel
theorem dX4_hints_34 : decode cX4_hints 34 = .ok (.if_icmp .ge 72, 3) := by decide +kernel
theorem dX4_hints_37 : decode cX4_hints 37 = .ok (.iload 5, 2) := by decide +kernel
theorem dX4_hints_39 : decode cX4_hints 39 = .ok (.iload_n 2, 1) := by decide +kernel
theorem dX4_hints_40 : decode cX4_hints 40 = .ok (.iconst (-1), 1) := by decide +kernel
theorem dX4_hints_41 : decode cX4_hints 41 = .ok (.ixor, 1) := by decide +kernel
theorem dX4_hints_42 : decode cX4_hints 42 = .ok (.iand, 1) := by decide +kernel
theorem dX4_hints_43 : decode cX4_hints 43 = .ok (.ifCond .eq 6, 3) := by decide +kernel
theorem dX4_hints_46 : decode cX4_hints 46 = .ok (.goto 54, 3) := by decide +kernel
theorem dX4_hints_49 : decode cX4_hints 49 = .ok (.aload_n 0, 1) := by decide +kernel
theorem dX4_hints_50 : decode cX4_hints 50 = .ok (.iload 5, 2) := by decide +kernel
theorem dX4_hints_52 : decode cX4_hints 52 = .ok (.putfield 111, 3) := by decide +kernel
theorem dX4_hints_55 : decode cX4_hints 55 = .ok (.aload_n 0, 1) := by decide +kernel
theorem dX4_hints_56 : decode cX4_hints 56 = .ok (.invokevirtual 217, 3) := by decide +kernel
theorem dX4_hints_59 : decode cX4_hints 59 = .ok (.invokestatic 96, 3) := by decide +kernel
theorem dX4_hints_62 : decode cX4_hints 62 = .ok (.istore 6, 2) := by decide +kernel
theorem dX4_hints_64 : decode cX4_hints 64 = .ok (.iload 6, 2) := by decide +kernel
theorem dX4_hints_66 : decode cX4_hints 66 = .ok (.iload 4, 2) := by decide +kernel
theorem dX4_hints_68 : decode cX4_hints 68 = .ok (.if_icmp .lt 32, 3) := by decide +kernel
theorem dX4_hints_71 : decode cX4_hints 71 = .ok (.iload 6, 2) := by decide +kernel
theorem dX4_hints_73 : decode cX4_hints 73 = .ok (.iload 4, 2) := by decide +kernel
theorem dX4_hints_75 : decode cX4_hints 75 = .ok (.if_icmp .ne 18, 3) := by decide +kernel
theorem dX4_hints_78 : decode cX4_hints 78 = .ok (.iload 5, 2) := by decide +kernel
theorem dX4_hints_80 : decode cX4_hints 80 = .ok (.invokestatic 96, 3) := by decide +kernel
theorem dX4_hints_83 : decode cX4_hints 83 = .ok (.iload_n 3, 1) := by decide +kernel
theorem dX4_hints_84 : decode cX4_hints 84 = .ok (.invokestatic 96, 3) := by decide +kernel
theorem dX4_hints_87 : decode cX4_hints 87 = .ok (.if_icmp .lt 6, 3) := by decide +kernel
theorem dX4_hints_90 : decode cX4_hints 90 = .ok (.goto 10, 3) := by decide +kernel
theorem dX4_hints_93 : decode cX4_hints 93 = .ok (.iload 6, 2) := by decide +kernel
theorem dX4_hints_95 : decode cX4_hints 95 = .ok (.istore 4, 2) := by decide +kernel
theorem dX4_hints_97 : decode cX4_hints 97 = .ok (.iload 5, 2) := by decide +kernel
theorem dX4_hints_99 : decode cX4_hints 99 = .ok (.istore_n 3, 1) := by decide +kernel
theorem dX4_hints_100 : decode cX4_hints 100 = .ok (.iinc 5 1, 3) := by decide +kernel
theorem dX4_hints_103 : decode cX4_hints 103 = .ok (.goto (-74), 3) := by decide +kernel
theorem dX4_hints_106 : decode cX4_hints 106 = .ok (.aload_n 0, 1) := by decide +kernel
theorem dX4_hints_107 : decode cX4_hints 107 = .ok (.iload_n 2, 1) := by decide +kernel
theorem dX4_hints_108 : decode cX4_hints 108 = .ok (.putfield 111, 3) := by decide +kernel
theorem dX4_hints_111 : decode cX4_hints 111 = .ok (.iload_n 1, 1) := by decide +kernel
theorem dX4_hints_112 : decode cX4_hints 112 = .ok (.ifCond .ne 7, 3) := by decide +kernel
theorem dX4_hints_115 : decode cX4_hints 115 = .ok (.iload_n 3, 1) := by decide +kernel
theorem dX4_hints_116 : decode cX4_hints 116 = .ok (.goto 5, 3) := by decide +kernel
theorem dX4_hints_119 : decode cX4_hints 119 = .ok (.iload 4, 2) := by decide +kernel
theorem dX4_hints_121 : decode cX4_hints 121 = .ok (.ireturn, 1) := by decide +kernel
theorem dX4_rules_0 : decode cX4_rules 0 = .ok (.iload_n 1, 1) := by decide +kernel
theorem dX4_rules_1 : decode cX4_rules 1 = .ok (.iconst 0, 1) := by decide +kernel
theorem dX4_rules_2 : decode cX4_rules 2 = .ok (.bipush 7, 2) := by decide +kernel
theorem dX4_rules_4 : decode cX4_rules 4 = .ok (.invokestatic 62, 3) := by decide +kernel
theorem dX4_rules_7 : decode cX4_rules 7 = .ok (.ifCond .eq 22, 3) := by decide +kernel
theorem dX4_rules_10 : decode cX4_rules 10 = .ok (.iload_n 2, 1) := by decide +kernel
theorem dX4_rules_11 : decode cX4_rules 11 = .ok (.iconst 1, 1) := by decide +kernel
theorem dX4_rules_12 : decode cX4_rules 12 = .ok (.bipush 40, 2) := by decide +kernel
theorem dX4_rules_14 : decode cX4_rules 14 = .ok (.invokestatic 62, 3) := by decide +kernel
theorem dX4_rules_17 : decode cX4_rules 17 = .ok (.ifCond .eq 12, 3) := by decide +kernel
theorem dX4_rules_20 : decode cX4_rules 20 = .ok (.iload_n 3, 1) := by decide +kernel
theorem dX4_rules_21 : decode cX4_rules 21 = .ok (.iconst 0, 1) := by decide +kernel
theorem dX4_rules_22 : decode cX4_rules 22 = .ok (.iconst 1, 1) := by decide +kernel
theorem dX4_rules_23 : decode cX4_rules 23 = .ok (.invokestatic 62, 3) := by decide +kernel
theorem dX4_rules_26 : decode cX4_rules 26 = .ok (.ifCond .ne 10, 3) := by decide +kernel
theorem dX4_rules_29 : decode cX4_rules 29 = .ok (.aload_n 0, 1) := by decide +kernel
theorem dX4_rules_30 : decode cX4_rules 30 = .ok (.bipush (-2), 2) := by decide +kernel
theorem dX4_rules_32 : decode cX4_rules 32 = .ok (.invokevirtual 69, 3) := by decide +kernel
theorem dX4_rules_35 : decode cX4_rules 35 = .ok (.ireturn, 1) := by decide +kernel
theorem dX4_rules_36 : decode cX4_rules 36 = .ok (.aload_n 0, 1) := by decide +kernel
theorem dX4_rules_37 : decode cX4_rules 37 = .ok (.iload_n 1, 1) := by decide +kernel
theorem dX4_rules_38 : decode cX4_rules 38 = .ok (.invokevirtual 73, 3) := by decide +kernel
theorem dX4_rules_41 : decode cX4_rules 41 = .ok (.istore 4, 2) := by decide +kernel
theorem dX4_rules_43 : decode cX4_rules 43 = .ok (.iload 4, 2) := by decide +kernel
theorem dX4_rules_45 : decode cX4_rules 45 = .ok (.ifCond .ge 10, 3) := by decide +kernel
theorem dX4_rules_48 : decode cX4_rules 48 = .ok (.aload_n 0, 1) := by decide +kernel
theorem dX4_rules_49 : decode cX4_rules 49 = .ok (.iload 4, 2) := by decide +kernel
theorem dX4_rules_51 : decode cX4_rules 51 = .ok (.invokevirtual 69, 3) := by decide +kernel
theorem dX4_rules_54 : decode cX4_rules 54 = .ok (.ireturn, 1) := by decide +kernel
theorem dX4_rules_55 : decode cX4_rules 55 = .ok (.iload_n 2, 1) := by decide +kernel
theorem dX4_rules_56 : decode cX4_rules 56 = .ok (.aload_n 0, 1) := by decide +kernel
theorem dX4_rules_57 : decode cX4_rules 57 = .ok (.getfield 13, 3) := by decide +kernel
theorem dX4_rules_60 : decode cX4_rules 60 = .ok (.iload_n 1, 1) := by decide +kernel
theorem dX4_rules_61 : decode cX4_rules 61 = .ok (.iaload, 1) := by decide +kernel
theorem dX4_rules_62 : decode cX4_rules 62 = .ok (.if_icmp .le 10, 3) := by decide +kernel
theorem dX4_rules_65 : decode cX4_rules 65 = .ok (.aload_n 0, 1) := by decide +kernel
theorem dX4_rules_66 : decode cX4_rules 66 = .ok (.bipush (-2), 2) := by decide +kernel
theorem dX4_rules_68 : decode cX4_rules 68 = .ok (.invokevirtual 69, 3) := by decide +kernel
theorem dX4_rules_71 : decode cX4_rules 71 = .ok (.ireturn, 1) := by decide +kernel
theorem dX4_rules_72 : decode cX4_rules 72 = .ok (.iconst 0, 1) := by decide +kernel
theorem dX4_rules_73 : decode cX4_rules 73 = .ok (.istore 5, 2) := by decide +kernel
theorem dX4_rules_75 : decode cX4_rules 75 = .ok (.iload 5, 2) := by decide +kernel
theorem dX4_rules_77 : decode cX4_rules 77 = .ok (.iload_n 2, 1) := by decide +kernel
theorem dX4_rules_78 : decode cX4_rules 78 = .ok (.if_icmp .ge 54, 3) := by decide +kernel
theorem dX4_rules_81 : decode cX4_rules 81 = .ok (.aload_n 0, 1) := by decide +kernel
theorem dX4_rules_82 : decode cX4_rules 82 = .ok (.getfield 16, 3) := by decide +kernel
theorem dX4_rules_85 : decode cX4_rules 85 = .ok (.bipush 40, 2) := by decide +kernel
theorem dX4_rules_87 : decode cX4_rules 87 = .ok (.iload_n 1, 1) := by decide +kernel
theorem dX4_rules_88 : decode cX4_rules 88 = .ok (.imul, 1) := by decide +kernel
theorem dX4_rules_89 : decode cX4_rules 89 = .ok (.iload 5, 2) := by decide +kernel
theorem dX4_rules_91 : decode cX4_rules 91 = .ok (.iadd, 1) := by decide +kernel
theorem dX4_rules_92 : decode cX4_rules 92 = .ok (.laload, 1) := by decide +kernel
theorem dX4_rules_93 : decode cX4_rules 93 = .ok (.lconst 0, 1) := by decide +kernel
theorem dX4_rules_94 : decode cX4_rules 94 = .ok (.lcmp, 1) := by decide +kernel
theorem dX4_rules_95 : decode cX4_rules 95 = .ok (.ifCond .lt 24, 3) := by decide +kernel
theorem dX4_rules_98 : decode cX4_rules 98 = .ok (.aload_n 0, 1) := by decide +kernel
theorem dX4_rules_99 : decode cX4_rules 99 = .ok (.getfield 16, 3) := by decide +kernel
theorem dX4_rules_102 : decode cX4_rules 102 = .ok (.bipush 40, 2) := by decide +kernel
theorem dX4_rules_104 : decode cX4_rules 104 = .ok (.iload_n 1, 1) := by decide +kernel
theorem dX4_rules_105 : decode cX4_rules 105 = .ok (.imul, 1) := by decide +kernel
theorem dX4_rules_106 : decode cX4_rules 106 = .ok (.iload 5, 2) := by decide +kernel
theorem dX4_rules_108 : decode cX4_rules 108 = .ok (.iadd, 1) := by decide +kernel
theorem dX4_rules_109 : decode cX4_rules 109 = .ok (.laload, 1) := by decide +kernel
theorem dX4_rules_110 : decode cX4_rules 110 = .ok (.aload_n 0, 1) := by decide +kernel
theorem dX4_rules_111 : decode cX4_rules 111 = .ok (.getfield 66, 3) := by decide +kernel
theorem dX4_rules_114 : decode cX4_rules 114 = .ok (.i2l, 1) := by decide +kernel
theorem dX4_rules_115 : decode cX4_rules 115 = .ok (.lcmp, 1) := by decide +kernel
theorem dX4_rules_116 : decode cX4_rules 116 = .ok (.ifCond .lt 10, 3) := by decide +kernel
theorem dX4_rules_119 : decode cX4_rules 119 = .ok (.aload_n 0, 1) := by decide +kernel
theorem dX4_rules_120 : decode cX4_rules 120 = .ok (.bipush (-2), 2) := by decide +kernel
theorem dX4_rules_122 : decode cX4_rules 122 = .ok (.invokevirtual 69, 3) := by decide +kernel
theorem dX4_rules_125 : decode cX4_rules 125 = .ok (.ireturn, 1) := by decide +kernel
theorem dX4_rules_126 : decode cX4_rules 126 = .ok (.iinc 5 1, 3) := by decide +kernel
theorem dX4_rules_129 : decode cX4_rules 129 = .ok (.goto (-54), 3) := by decide +kernel
theorem dX4_rules_132 : decode cX4_rules 132 = .ok (.iconst 0, 1) := by decide +kernel
theorem dX4_rules_133 : decode cX4_rules 133 = .ok (.istore 5, 2) := by decide +kernel
theorem dX4_rules_135 : decode cX4_rules 135 = .ok (.iconst 0, 1) := by decide +kernel
theorem dX4_rules_136 : decode cX4_rules 136 = .ok (.istore 6, 2) := by decide +kernel
theorem dX4_rules_138 : decode cX4_rules 138 = .ok (.iconst 0, 1) := by decide +kernel
theorem dX4_rules_139 : decode cX4_rules 139 = .ok (.istore 7, 2) := by decide +kernel
theorem dX4_rules_141 : decode cX4_rules 141 = .ok (.iload 7, 2) := by decide +kernel
theorem dX4_rules_143 : decode cX4_rules 143 = .ok (.aload_n 0, 1) := by decide +kernel
theorem dX4_rules_144 : decode cX4_rules 144 = .ok (.getfield 66, 3) := by decide +kernel
theorem dX4_rules_147 : decode cX4_rules 147 = .ok (.if_icmp .ge 108, 3) := by decide +kernel
theorem dX4_rules_150 : decode cX4_rules 150 = .ok (.iconst 0, 1) := by decide +kernel
theorem dX4_rules_151 : decode cX4_rules 151 = .ok (.istore 8, 2) := by decide +kernel
theorem dX4_rules_153 : decode cX4_rules 153 = .ok (.iload 8, 2) := by decide +kernel
theorem dX4_rules_155 : decode cX4_rules 155 = .ok (.aload_n 0, 1) := by decide +kernel
theorem dX4_rules_156 : decode cX4_rules 156 = .ok (.getfield 66, 3) := by decide +kernel
theorem dX4_rules_159 : decode cX4_rules 159 = .ok (.if_icmp .ge 90, 3) := by decide +kernel
theorem dX4_rules_162 : decode cX4_rules 162 = .ok (.iconst 1, 1) := by decide +kernel
theorem dX4_rules_163 : decode cX4_rules 163 = .ok (.istore 9, 2) := by decide +kernel
theorem dX4_rules_165 : decode cX4_rules 165 = .ok (.iconst 0, 1) := by decide +kernel
theorem dX4_rules_166 : decode cX4_rules 166 = .ok (.istore 10, 2) := by decide +kernel
theorem dX4_rules_168 : decode cX4_rules 168 = .ok (.iload 10, 2) := by decide +kernel
theorem dX4_rules_170 : decode cX4_rules 170 = .ok (.iload_n 2, 1) := by decide +kernel
theorem dX4_rules_171 : decode cX4_rules 171 = .ok (.if_icmp .ge 42, 3) := by decide +kernel
theorem dX4_rules_174 : decode cX4_rules 174 = .ok (.iload 7, 2) := by decide +kernel
theorem dX4_rules_176 : decode cX4_rules 176 = .ok (.iload 8, 2) := by decide +kernel
theorem dX4_rules_178 : decode cX4_rules 178 = .ok (.iload 10, 2) := by decide +kernel
theorem dX4_rules_180 : decode cX4_rules 180 = .ok (.imul, 1) := by decide +kernel
theorem dX4_rules_181 : decode cX4_rules 181 = .ok (.iadd, 1) := by decide +kernel
theorem dX4_rules_182 : decode cX4_rules 182 = .ok (.aload_n 0, 1) := by decide +kernel
theorem dX4_rules_183 : decode cX4_rules 183 = .ok (.getfield 66, 3) := by decide +kernel
theorem dX4_rules_186 : decode cX4_rules 186 = .ok (.irem, 1) := by decide +kernel
theorem dX4_rules_187 : decode cX4_rules 187 = .ok (.i2l, 1) := by decide +kernel
theorem dX4_rules_188 : decode cX4_rules 188 = .ok (.aload_n 0, 1) := by decide +kernel
theorem dX4_rules_189 : decode cX4_rules 189 = .ok (.getfield 16, 3) := by decide +kernel
theorem dX4_rules_192 : decode cX4_rules 192 = .ok (.bipush 40, 2) := by decide +kernel
theorem dX4_rules_194 : decode cX4_rules 194 = .ok (.iload_n 1, 1) := by decide +kernel
theorem dX4_rules_195 : decode cX4_rules 195 = .ok (.imul, 1) := by decide +kernel
theorem dX4_rules_196 : decode cX4_rules 196 = .ok (.iload 10, 2) := by decide +kernel
theorem dX4_rules_198 : decode cX4_rules 198 = .ok (.iadd, 1) := by decide +kernel
theorem dX4_rules_199 : decode cX4_rules 199 = .ok (.laload, 1) := by decide +kernel
theorem dX4_rules_200 : decode cX4_rules 200 = .ok (.lcmp, 1) := by decide +kernel
theorem dX4_rules_201 : decode cX4_rules 201 = .ok (.ifCond .eq 6, 3) := by decide +kernel
theorem dX4_rules_204 : decode cX4_rules 204 = .ok (.iconst 0, 1) := by decide +kernel
theorem dX4_rules_205 : decode cX4_rules 205 = .ok (.istore 9, 2) := by decide +kernel
theorem dX4_rules_207 : decode cX4_rules 207 = .ok (.iinc 10 1, 3) := by decide +kernel
theorem dX4_rules_210 : decode cX4_rules 210 = .ok (.goto (-42), 3) := by decide +kernel
theorem dX4_rules_213 : decode cX4_rules 213 = .ok (.iload 9, 2) := by decide +kernel
theorem dX4_rules_215 : decode cX4_rules 215 = .ok (.ifCond .ne 6, 3) := by decide +kernel
theorem dX4_rules_218 : decode cX4_rules 218 = .ok (.goto 25, 3) := by decide +kernel
theorem dX4_rules_221 : decode cX4_rules 221 = .ok (.iinc 5 1, 3) := by decide +kernel
theorem dX4_rules_224 : decode cX4_rules 224 = .ok (.iload 6, 2) := by decide +kernel
theorem dX4_rules_226 : decode cX4_rules 226 = .ok (.iconst 1, 1) := by decide +kernel
theorem dX4_rules_227 : decode cX4_rules 227 = .ok (.iload 7, 2) := by decide +kernel
theorem dX4_rules_229 : decode cX4_rules 229 = .ok (.iload 8, 2) := by decide +kernel
theorem dX4_rules_231 : decode cX4_rules 231 = .ok (.iload_n 2, 1) := by decide +kernel
theorem dX4_rules_232 : decode cX4_rules 232 = .ok (.imul, 1) := by decide +kernel
theorem dX4_rules_233 : decode cX4_rules 233 = .ok (.iadd, 1) := by decide +kernel
theorem dX4_rules_234 : decode cX4_rules 234 = .ok (.aload_n 0, 1) := by decide +kernel
theorem dX4_rules_235 : decode cX4_rules 235 = .ok (.getfield 66, 3) := by decide +kernel
theorem dX4_rules_238 : decode cX4_rules 238 = .ok (.irem, 1) := by decide +kernel
theorem dX4_rules_239 : decode cX4_rules 239 = .ok (.ishl, 1) := by decide +kernel
theorem dX4_rules_240 : decode cX4_rules 240 = .ok (.ior, 1) := by decide +kernel
theorem dX4_rules_241 : decode cX4_rules 241 = .ok (.istore 6, 2) := by decide +kernel
theorem dX4_rules_243 : decode cX4_rules 243 = .ok (.iinc 8 1, 3) := by decide +kernel
theorem dX4_rules_246 : decode cX4_rules 246 = .ok (.goto (-93), 3) := by decide +kernel
theorem dX4_rules_249 : decode cX4_rules 249 = .ok (.iinc 7 1, 3) := by decide +kernel
theorem dX4_rules_252 : decode cX4_rules 252 = .ok (.goto (-111), 3) := by decide +kernel
theorem dX4_rules_255 : decode cX4_rules 255 = .ok (.iload_n 3, 1) := by decide +kernel
theorem dX4_rules_256 : decode cX4_rules 256 = .ok (.ifCond .ne 8, 3) := by decide +kernel
theorem dX4_rules_259 : decode cX4_rules 259 = .ok (.iload 5, 2) := by decide +kernel
theorem dX4_rules_261 : decode cX4_rules 261 = .ok (.goto 5, 3) := by decide +kernel
theorem dX4_rules_264 : decode cX4_rules 264 = .ok (.iload 6, 2) := by decide +kernel
theorem dX4_rules_266 : decode cX4_rules 266 = .ok (.ireturn, 1) := by decide +kernel
theorem dX4_noList_0 : decode cX4_noList 0 = .ok (.aload_n 0, 1) := by decide +kernel
theorem dX4_noList_1 : decode cX4_noList 1 = .ok (.iload_n 1, 1) := by decide +kernel
theorem dX4_noList_2 : decode cX4_noList 2 = .ok (.invokevirtual 73, 3) := by decide +kernel
theorem dX4_noList_5 : decode cX4_noList 5 = .ok (.istore_n 2, 1) := by decide +kernel
theorem dX4_noList_6 : decode cX4_noList 6 = .ok (.iload_n 2, 1) := by decide +kernel
theorem dX4_noList_7 : decode cX4_noList 7 = .ok (.ifCond .ge 7, 3) := by decide +kernel
theorem dX4_noList_10 : decode cX4_noList 10 = .ok (.iload_n 2, 1) := by decide +kernel
theorem dX4_noList_11 : decode cX4_noList 11 = .ok (.goto 22, 3) := by decide +kernel
theorem dX4_noList_14 : decode cX4_noList 14 = .ok (.aload_n 0, 1) := by decide +kernel
theorem dX4_noList_15 : decode cX4_noList 15 = .ok (.getfield 13, 3) := by decide +kernel
theorem dX4_noList_18 : decode cX4_noList 18 = .ok (.iload_n 1, 1) := by decide +kernel
theorem dX4_noList_19 : decode cX4_noList 19 = .ok (.iaload, 1) := by decide +kernel
theorem dX4_noList_20 : decode cX4_noList 20 = .ok (.aload_n 0, 1) := by decide +kernel
theorem dX4_noList_21 : decode cX4_noList 21 = .ok (.getfield 66, 3) := by decide +kernel
theorem dX4_noList_24 : decode cX4_noList 24 = .ok (.if_icmp .ge 8, 3) := by decide +kernel
theorem dX4_noList_27 : decode cX4_noList 27 = .ok (.bipush (-2), 2) := by decide +kernel
theorem dX4_noList_29 : decode cX4_noList 29 = .ok (.goto 4, 3) := by decide +kernel
theorem dX4_noList_32 : decode cX4_noList 32 = .ok (.iconst 0, 1) := by decide +kernel
theorem dX4_noList_33 : decode cX4_noList 33 = .ok (.ireturn, 1) := by decide +kernel
theorem dX4_listed_0 : decode cX4_listed 0 = .ok (.aload_n 0, 1) := by decide +kernel
theorem dX4_listed_1 : decode cX4_listed 1 = .ok (.getfield 16, 3) := by decide +kernel
theorem dX4_listed_4 : decode cX4_listed 4 = .ok (.bipush 40, 2) := by decide +kernel
theorem dX4_listed_6 : decode cX4_listed 6 = .ok (.iload_n 1, 1) := by decide +kernel
theorem dX4_listed_7 : decode cX4_listed 7 = .ok (.imul, 1) := by decide +kernel
theorem dX4_listed_8 : decode cX4_listed 8 = .ok (.iload_n 2, 1) := by decide +kernel
theorem dX4_listed_9 : decode cX4_listed 9 = .ok (.iadd, 1) := by decide +kernel
theorem dX4_listed_10 : decode cX4_listed 10 = .ok (.laload, 1) := by decide +kernel
theorem dX4_listed_11 : decode cX4_listed 11 = .ok (.l2i, 1) := by decide +kernel
theorem dX4_listed_12 : decode cX4_listed 12 = .ok (.iconst 1, 1) := by decide +kernel
theorem dX4_listed_13 : decode cX4_listed 13 = .ok (.aload_n 0, 1) := by decide +kernel
theorem dX4_listed_14 : decode cX4_listed 14 = .ok (.getfield 59, 3) := by decide +kernel
theorem dX4_listed_17 : decode cX4_listed 17 = .ok (.ishl, 1) := by decide +kernel
theorem dX4_listed_18 : decode cX4_listed 18 = .ok (.iconst 1, 1) := by decide +kernel
theorem dX4_listed_19 : decode cX4_listed 19 = .ok (.isub, 1) := by decide +kernel
theorem dX4_listed_20 : decode cX4_listed 20 = .ok (.iand, 1) := by decide +kernel
theorem dX4_listed_21 : decode cX4_listed 21 = .ok (.ireturn, 1) := by decide +kernel
theorem dX4_judge_0 : decode cX4_judge 0 = .ok (.aload_n 0, 1) := by decide +kernel
theorem dX4_judge_1 : decode cX4_judge 1 = .ok (.iload_n 1, 1) := by decide +kernel
theorem dX4_judge_2 : decode cX4_judge 2 = .ok (.invokevirtual 252, 3) := by decide +kernel
theorem dX4_judge_5 : decode cX4_judge 5 = .ok (.istore_n 2, 1) := by decide +kernel
theorem dX4_judge_6 : decode cX4_judge 6 = .ok (.iload_n 2, 1) := by decide +kernel
theorem dX4_judge_7 : decode cX4_judge 7 = .ok (.ifCond .ge 9, 3) := by decide +kernel
theorem dX4_judge_10 : decode cX4_judge 10 = .ok (.aload_n 0, 1) := by decide +kernel
theorem dX4_judge_11 : decode cX4_judge 11 = .ok (.iload_n 2, 1) := by decide +kernel
theorem dX4_judge_12 : decode cX4_judge 12 = .ok (.invokevirtual 69, 3) := by decide +kernel
theorem dX4_judge_15 : decode cX4_judge 15 = .ok (.ireturn, 1) := by decide +kernel
theorem dX4_judge_16 : decode cX4_judge 16 = .ok (.iconst 0, 1) := by decide +kernel
theorem dX4_judge_17 : decode cX4_judge 17 = .ok (.istore_n 3, 1) := by decide +kernel
theorem dX4_judge_18 : decode cX4_judge 18 = .ok (.iload_n 3, 1) := by decide +kernel
theorem dX4_judge_19 : decode cX4_judge 19 = .ok (.aload_n 0, 1) := by decide +kernel
theorem dX4_judge_20 : decode cX4_judge 20 = .ok (.getfield 66, 3) := by decide +kernel
theorem dX4_judge_23 : decode cX4_judge 23 = .ok (.if_icmp .ge 25, 3) := by decide +kernel
theorem dX4_judge_26 : decode cX4_judge 26 = .ok (.aload_n 0, 1) := by decide +kernel
theorem dX4_judge_27 : decode cX4_judge 27 = .ok (.iload_n 1, 1) := by decide +kernel
theorem dX4_judge_28 : decode cX4_judge 28 = .ok (.iload_n 3, 1) := by decide +kernel
theorem dX4_judge_29 : decode cX4_judge 29 = .ok (.invokevirtual 255, 3) := by decide +kernel
theorem dX4_judge_32 : decode cX4_judge 32 = .ok (.aload_n 0, 1) := by decide +kernel
theorem dX4_judge_33 : decode cX4_judge 33 = .ok (.iload_n 3, 1) := by decide +kernel
theorem dX4_judge_34 : decode cX4_judge 34 = .ok (.invokevirtual 205, 3) := by decide +kernel
theorem dX4_judge_37 : decode cX4_judge 37 = .ok (.if_icmp .eq 5, 3) := by decide +kernel
theorem dX4_judge_40 : decode cX4_judge 40 = .ok (.iload_n 3, 1) := by decide +kernel
theorem dX4_judge_41 : decode cX4_judge 41 = .ok (.ireturn, 1) := by decide +kernel
theorem dX4_judge_42 : decode cX4_judge 42 = .ok (.iinc 3 1, 3) := by decide +kernel
theorem dX4_judge_45 : decode cX4_judge 45 = .ok (.goto (-27), 3) := by decide +kernel
theorem dX4_judge_48 : decode cX4_judge 48 = .ok (.iconst (-1), 1) := by decide +kernel
theorem dX4_judge_49 : decode cX4_judge 49 = .ok (.ireturn, 1) := by decide +kernel
theorem dX4_unlike_0 : decode cX4_unlike 0 = .ok (.aload_n 0, 1) := by decide +kernel
theorem dX4_unlike_1 : decode cX4_unlike 1 = .ok (.iload_n 1, 1) := by decide +kernel
theorem dX4_unlike_2 : decode cX4_unlike 2 = .ok (.invokevirtual 252, 3) := by decide +kernel
theorem dX4_unlike_5 : decode cX4_unlike 5 = .ok (.istore_n 2, 1) := by decide +kernel
theorem dX4_unlike_6 : decode cX4_unlike 6 = .ok (.iload_n 2, 1) := by decide +kernel
theorem dX4_unlike_7 : decode cX4_unlike 7 = .ok (.ifCond .ge 9, 3) := by decide +kernel
theorem dX4_unlike_10 : decode cX4_unlike 10 = .ok (.aload_n 0, 1) := by decide +kernel
theorem dX4_unlike_11 : decode cX4_unlike 11 = .ok (.iload_n 2, 1) := by decide +kernel
theorem dX4_unlike_12 : decode cX4_unlike 12 = .ok (.invokevirtual 69, 3) := by decide +kernel
theorem dX4_unlike_15 : decode cX4_unlike 15 = .ok (.ireturn, 1) := by decide +kernel
theorem dX4_unlike_16 : decode cX4_unlike 16 = .ok (.iconst 0, 1) := by decide +kernel
theorem dX4_unlike_17 : decode cX4_unlike 17 = .ok (.istore_n 3, 1) := by decide +kernel
theorem dX4_unlike_18 : decode cX4_unlike 18 = .ok (.iconst 0, 1) := by decide +kernel
theorem dX4_unlike_19 : decode cX4_unlike 19 = .ok (.istore 4, 2) := by decide +kernel
theorem dX4_unlike_21 : decode cX4_unlike 21 = .ok (.iload 4, 2) := by decide +kernel
theorem dX4_unlike_23 : decode cX4_unlike 23 = .ok (.aload_n 0, 1) := by decide +kernel
theorem dX4_unlike_24 : decode cX4_unlike 24 = .ok (.getfield 66, 3) := by decide +kernel
theorem dX4_unlike_27 : decode cX4_unlike 27 = .ok (.if_icmp .ge 29, 3) := by decide +kernel
theorem dX4_unlike_30 : decode cX4_unlike 30 = .ok (.iload_n 3, 1) := by decide +kernel
theorem dX4_unlike_31 : decode cX4_unlike 31 = .ok (.aload_n 0, 1) := by decide +kernel
theorem dX4_unlike_32 : decode cX4_unlike 32 = .ok (.iload_n 1, 1) := by decide +kernel
theorem dX4_unlike_33 : decode cX4_unlike 33 = .ok (.iload 4, 2) := by decide +kernel
theorem dX4_unlike_35 : decode cX4_unlike 35 = .ok (.invokevirtual 255, 3) := by decide +kernel
theorem dX4_unlike_38 : decode cX4_unlike 38 = .ok (.aload_n 0, 1) := by decide +kernel
theorem dX4_unlike_39 : decode cX4_unlike 39 = .ok (.iload 4, 2) := by decide +kernel
theorem dX4_unlike_41 : decode cX4_unlike 41 = .ok (.invokevirtual 205, 3) := by decide +kernel
theorem dX4_unlike_44 : decode cX4_unlike 44 = .ok (.ixor, 1) := by decide +kernel
theorem dX4_unlike_45 : decode cX4_unlike 45 = .ok (.invokestatic 96, 3) := by decide +kernel
theorem dX4_unlike_48 : decode cX4_unlike 48 = .ok (.iadd, 1) := by decide +kernel
theorem dX4_unlike_49 : decode cX4_unlike 49 = .ok (.istore_n 3, 1) := by decide +kernel
theorem dX4_unlike_50 : decode cX4_unlike 50 = .ok (.iinc 4 1, 3) := by decide +kernel
theorem dX4_unlike_53 : decode cX4_unlike 53 = .ok (.goto (-32), 3) := by decide +kernel
theorem dX4_unlike_56 : decode cX4_unlike 56 = .ok (.iload_n 3, 1) := by decide +kernel
theorem dX4_unlike_57 : decode cX4_unlike 57 = .ok (.ireturn, 1) := by decide +kernel
theorem dX4_draw_0 : decode cX4_draw 0 = .ok (.aload_n 0, 1) := by decide +kernel
theorem dX4_draw_1 : decode cX4_draw 1 = .ok (.aload_n 0, 1) := by decide +kernel
theorem dX4_draw_2 : decode cX4_draw 2 = .ok (.getfield 52, 3) := by decide +kernel
theorem dX4_draw_5 : decode cX4_draw 5 = .ok (.ldc_w 258, 3) := by decide +kernel
theorem dX4_draw_8 : decode cX4_draw 8 = .ok (.imul, 1) := by decide +kernel
theorem dX4_draw_9 : decode cX4_draw 9 = .ok (.sipush 12345, 3) := by decide +kernel
theorem dX4_draw_12 : decode cX4_draw 12 = .ok (.iadd, 1) := by decide +kernel
theorem dX4_draw_13 : decode cX4_draw 13 = .ok (.putfield 52, 3) := by decide +kernel
theorem dX4_draw_16 : decode cX4_draw 16 = .ok (.aload_n 0, 1) := by decide +kernel
theorem dX4_draw_17 : decode cX4_draw 17 = .ok (.getfield 52, 3) := by decide +kernel
theorem dX4_draw_20 : decode cX4_draw 20 = .ok (.bipush 16, 2) := by decide +kernel
theorem dX4_draw_22 : decode cX4_draw 22 = .ok (.iushr, 1) := by decide +kernel
theorem dX4_draw_23 : decode cX4_draw 23 = .ok (.iload_n 1, 1) := by decide +kernel
theorem dX4_draw_24 : decode cX4_draw 24 = .ok (.irem, 1) := by decide +kernel
theorem dX4_draw_25 : decode cX4_draw 25 = .ok (.ireturn, 1) := by decide +kernel
theorem dX4_ring_0 : decode cX4_ring 0 = .ok (.aload_n 0, 1) := by decide +kernel
theorem dX4_ring_1 : decode cX4_ring 1 = .ok (.aload_n 0, 1) := by decide +kernel
theorem dX4_ring_2 : decode cX4_ring 2 = .ok (.getfield 111, 3) := by decide +kernel
theorem dX4_ring_5 : decode cX4_ring 5 = .ok (.invokevirtual 199, 3) := by decide +kernel
theorem dX4_ring_8 : decode cX4_ring 8 = .ok (.istore_n 1, 1) := by decide +kernel
theorem dX4_ring_9 : decode cX4_ring 9 = .ok (.iload_n 1, 1) := by decide +kernel
theorem dX4_ring_10 : decode cX4_ring 10 = .ok (.ifCond .ne 10, 3) := by decide +kernel
theorem dX4_ring_13 : decode cX4_ring 13 = .ok (.aload_n 0, 1) := by decide +kernel
theorem dX4_ring_14 : decode cX4_ring 14 = .ok (.bipush (-5), 2) := by decide +kernel
theorem dX4_ring_16 : decode cX4_ring 16 = .ok (.invokevirtual 69, 3) := by decide +kernel
theorem dX4_ring_19 : decode cX4_ring 19 = .ok (.ireturn, 1) := by decide +kernel
theorem dX4_ring_20 : decode cX4_ring 20 = .ok (.aload_n 0, 1) := by decide +kernel
theorem dX4_ring_21 : decode cX4_ring 21 = .ok (.iload_n 1, 1) := by decide +kernel
theorem dX4_ring_22 : decode cX4_ring 22 = .ok (.invokevirtual 259, 3) := by decide +kernel
theorem dX4_ring_25 : decode cX4_ring 25 = .ok (.istore_n 2, 1) := by decide +kernel
theorem dX4_ring_26 : decode cX4_ring 26 = .ok (.iconst 0, 1) := by decide +kernel
theorem dX4_ring_27 : decode cX4_ring 27 = .ok (.istore_n 3, 1) := by decide +kernel
theorem dX4_ring_28 : decode cX4_ring 28 = .ok (.aload_n 0, 1) := by decide +kernel
theorem dX4_ring_29 : decode cX4_ring 29 = .ok (.getfield 111, 3) := by decide +kernel
theorem dX4_ring_32 : decode cX4_ring 32 = .ok (.iload_n 3, 1) := by decide +kernel
theorem dX4_ring_33 : decode cX4_ring 33 = .ok (.invokestatic 121, 3) := by decide +kernel
theorem dX4_ring_36 : decode cX4_ring 36 = .ok (.ifCond .eq 13, 3) := by decide +kernel
theorem dX4_ring_39 : decode cX4_ring 39 = .ok (.iload_n 2, 1) := by decide +kernel
theorem dX4_ring_40 : decode cX4_ring 40 = .ok (.aload_n 0, 1) := by decide +kernel
theorem dX4_ring_41 : decode cX4_ring 41 = .ok (.getfield 20, 3) := by decide +kernel
theorem dX4_ring_44 : decode cX4_ring 44 = .ok (.iload_n 3, 1) := by decide +kernel
theorem dX4_ring_45 : decode cX4_ring 45 = .ok (.iaload, 1) := by decide +kernel
theorem dX4_ring_46 : decode cX4_ring 46 = .ok (.if_icmp .lt 29, 3) := by decide +kernel
theorem dX4_ring_49 : decode cX4_ring 49 = .ok (.aload_n 0, 1) := by decide +kernel
theorem dX4_ring_50 : decode cX4_ring 50 = .ok (.getfield 111, 3) := by decide +kernel
theorem dX4_ring_53 : decode cX4_ring 53 = .ok (.iload_n 3, 1) := by decide +kernel
theorem dX4_ring_54 : decode cX4_ring 54 = .ok (.invokestatic 121, 3) := by decide +kernel
theorem dX4_ring_57 : decode cX4_ring 57 = .ok (.ifCond .eq 12, 3) := by decide +kernel
theorem dX4_ring_60 : decode cX4_ring 60 = .ok (.iload_n 2, 1) := by decide +kernel
theorem dX4_ring_61 : decode cX4_ring 61 = .ok (.aload_n 0, 1) := by decide +kernel
theorem dX4_ring_62 : decode cX4_ring 62 = .ok (.getfield 20, 3) := by decide +kernel
theorem dX4_ring_65 : decode cX4_ring 65 = .ok (.iload_n 3, 1) := by decide +kernel
theorem dX4_ring_66 : decode cX4_ring 66 = .ok (.iaload, 1) := by decide +kernel
theorem dX4_ring_67 : decode cX4_ring 67 = .ok (.isub, 1) := by decide +kernel
theorem dX4_ring_68 : decode cX4_ring 68 = .ok (.istore_n 2, 1) := by decide +kernel
theorem dX4_ring_69 : decode cX4_ring 69 = .ok (.iinc 3 1, 3) := by decide +kernel
theorem dX4_ring_72 : decode cX4_ring 72 = .ok (.goto (-44), 3) := by decide +kernel
theorem dX4_ring_75 : decode cX4_ring 75 = .ok (.aload_n 0, 1) := by decide +kernel
theorem dX4_ring_76 : decode cX4_ring 76 = .ok (.iload_n 3, 1) := by decide +kernel
theorem dX4_ring_77 : decode cX4_ring 77 = .ok (.invokevirtual 205, 3) := by decide +kernel
theorem dX4_ring_80 : decode cX4_ring 80 = .ok (.istore 4, 2) := by decide +kernel
theorem dX4_ring_82 : decode cX4_ring 82 = .ok (.aload_n 0, 1) := by decide +kernel
theorem dX4_ring_83 : decode cX4_ring 83 = .ok (.dup, 1) := by decide +kernel
theorem dX4_ring_84 : decode cX4_ring 84 = .ok (.getfield 262, 3) := by decide +kernel
theorem dX4_ring_87 : decode cX4_ring 87 = .ok (.aload_n 0, 1) := by decide +kernel
theorem dX4_ring_88 : decode cX4_ring 88 = .ok (.getfield 59, 3) := by decide +kernel
theorem dX4_ring_91 : decode cX4_ring 91 = .ok (.iload 4, 2) := by decide +kernel
theorem dX4_ring_93 : decode cX4_ring 93 = .ok (.invokestatic 96, 3) := by decide +kernel
theorem dX4_ring_96 : decode cX4_ring 96 = .ok (.isub, 1) := by decide +kernel
theorem dX4_ring_97 : decode cX4_ring 97 = .ok (.iadd, 1) := by decide +kernel
theorem dX4_ring_98 : decode cX4_ring 98 = .ok (.putfield 262, 3) := by decide +kernel
theorem dX4_ring_101 : decode cX4_ring 101 = .ok (.iload 4, 2) := by decide +kernel
theorem dX4_ring_103 : decode cX4_ring 103 = .ok (.ifCond .eq 13, 3) := by decide +kernel
theorem dX4_ring_106 : decode cX4_ring 106 = .ok (.aload_n 0, 1) := by decide +kernel
theorem dX4_ring_107 : decode cX4_ring 107 = .ok (.dup, 1) := by decide +kernel
theorem dX4_ring_108 : decode cX4_ring 108 = .ok (.getfield 265, 3) := by decide +kernel
theorem dX4_ring_111 : decode cX4_ring 111 = .ok (.iconst 1, 1) := by decide +kernel
theorem dX4_ring_112 : decode cX4_ring 112 = .ok (.iadd, 1) := by decide +kernel
theorem dX4_ring_113 : decode cX4_ring 113 = .ok (.putfield 265, 3) := by decide +kernel
theorem dX4_ring_116 : decode cX4_ring 116 = .ok (.aload_n 0, 1) := by decide +kernel
theorem dX4_ring_117 : decode cX4_ring 117 = .ok (.dup, 1) := by decide +kernel
theorem dX4_ring_118 : decode cX4_ring 118 = .ok (.getfield 268, 3) := by decide +kernel
theorem dX4_ring_121 : decode cX4_ring 121 = .ok (.iconst 1, 1) := by decide +kernel
theorem dX4_ring_122 : decode cX4_ring 122 = .ok (.iadd, 1) := by decide +kernel
theorem dX4_ring_123 : decode cX4_ring 123 = .ok (.putfield 268, 3) := by decide +kernel
theorem dX4_ring_126 : decode cX4_ring 126 = .ok (.iload_n 3, 1) := by decide +kernel
theorem dX4_ring_127 : decode cX4_ring 127 = .ok (.ireturn, 1) := by decide +kernel
theorem dX4_rings_0 : decode cX4_rings 0 = .ok (.iload_n 1, 1) := by decide +kernel
theorem dX4_rings_1 : decode cX4_rings 1 = .ok (.iconst 1, 1) := by decide +kernel
theorem dX4_rings_2 : decode cX4_rings 2 = .ok (.bipush 40, 2) := by decide +kernel
theorem dX4_rings_4 : decode cX4_rings 4 = .ok (.invokestatic 62, 3) := by decide +kernel
theorem dX4_rings_7 : decode cX4_rings 7 = .ok (.ifCond .ne 10, 3) := by decide +kernel
theorem dX4_rings_10 : decode cX4_rings 10 = .ok (.aload_n 0, 1) := by decide +kernel
theorem dX4_rings_11 : decode cX4_rings 11 = .ok (.bipush (-2), 2) := by decide +kernel
theorem dX4_rings_13 : decode cX4_rings 13 = .ok (.invokevirtual 69, 3) := by decide +kernel
theorem dX4_rings_16 : decode cX4_rings 16 = .ok (.ireturn, 1) := by decide +kernel
theorem dX4_rings_17 : decode cX4_rings 17 = .ok (.aload_n 0, 1) := by decide +kernel
theorem dX4_rings_18 : decode cX4_rings 18 = .ok (.aload_n 0, 1) := by decide +kernel
theorem dX4_rings_19 : decode cX4_rings 19 = .ok (.getfield 111, 3) := by decide +kernel
theorem dX4_rings_22 : decode cX4_rings 22 = .ok (.invokevirtual 199, 3) := by decide +kernel
theorem dX4_rings_25 : decode cX4_rings 25 = .ok (.ifCond .ne 10, 3) := by decide +kernel
theorem dX4_rings_28 : decode cX4_rings 28 = .ok (.aload_n 0, 1) := by decide +kernel
theorem dX4_rings_29 : decode cX4_rings 29 = .ok (.bipush (-5), 2) := by decide +kernel
theorem dX4_rings_31 : decode cX4_rings 31 = .ok (.invokevirtual 69, 3) := by decide +kernel
theorem dX4_rings_34 : decode cX4_rings 34 = .ok (.ireturn, 1) := by decide +kernel
theorem dX4_rings_35 : decode cX4_rings 35 = .ok (.aload_n 0, 1) := by decide +kernel
theorem dX4_rings_36 : decode cX4_rings 36 = .ok (.getfield 265, 3) := by decide +kernel
theorem dX4_rings_39 : decode cX4_rings 39 = .ok (.istore_n 2, 1) := by decide +kernel
theorem dX4_rings_40 : decode cX4_rings 40 = .ok (.iconst 0, 1) := by decide +kernel
theorem dX4_rings_41 : decode cX4_rings 41 = .ok (.istore_n 3, 1) := by decide +kernel
theorem dX4_rings_42 : decode cX4_rings 42 = .ok (.iload_n 3, 1) := by decide +kernel
theorem dX4_rings_43 : decode cX4_rings 43 = .ok (.iload_n 1, 1) := by decide +kernel
theorem dX4_rings_44 : decode cX4_rings 44 = .ok (.if_icmp .ge 14, 3) := by decide +kernel
theorem dX4_rings_47 : decode cX4_rings 47 = .ok (.aload_n 0, 1) := by decide +kernel
theorem dX4_rings_48 : decode cX4_rings 48 = .ok (.invokevirtual 271, 3) := by decide +kernel
theorem dX4_rings_51 : decode cX4_rings 51 = .ok (.pop, 1) := by decide +kernel
theorem dX4_rings_52 : decode cX4_rings 52 = .ok (.iinc 3 1, 3) := by decide +kernel
theorem dX4_rings_55 : decode cX4_rings 55 = .ok (.goto (-13), 3) := by decide +kernel
theorem dX4_rings_58 : decode cX4_rings 58 = .ok (.aload_n 0, 1) := by decide +kernel
theorem dX4_rings_59 : decode cX4_rings 59 = .ok (.getfield 265, 3) := by decide +kernel
theorem dX4_rings_62 : decode cX4_rings 62 = .ok (.iload_n 2, 1) := by decide +kernel
theorem dX4_rings_63 : decode cX4_rings 63 = .ok (.isub, 1) := by decide +kernel
theorem dX4_rings_64 : decode cX4_rings 64 = .ok (.ireturn, 1) := by decide +kernel
theorem dX4_learn_0 : decode cX4_learn 0 = .ok (.aload_n 0, 1) := by decide +kernel
theorem dX4_learn_1 : decode cX4_learn 1 = .ok (.iload_n 1, 1) := by decide +kernel
theorem dX4_learn_2 : decode cX4_learn 2 = .ok (.invokevirtual 80, 3) := by decide +kernel
theorem dX4_learn_5 : decode cX4_learn 5 = .ok (.ifCond .eq 13, 3) := by decide +kernel
theorem dX4_learn_8 : decode cX4_learn 8 = .ok (.iload_n 2, 1) := by decide +kernel
theorem dX4_learn_9 : decode cX4_learn 9 = .ok (.iconst 0, 1) := by decide +kernel
theorem dX4_learn_10 : decode cX4_learn 10 = .ok (.bipush 9, 2) := by decide +kernel
theorem dX4_learn_12 : decode cX4_learn 12 = .ok (.invokestatic 62, 3) := by decide +kernel
theorem dX4_learn_15 : decode cX4_learn 15 = .ok (.ifCond .ne 10, 3) := by decide +kernel
theorem dX4_learn_18 : decode cX4_learn 18 = .ok (.aload_n 0, 1) := by decide +kernel
theorem dX4_learn_19 : decode cX4_learn 19 = .ok (.bipush (-2), 2) := by decide +kernel
theorem dX4_learn_21 : decode cX4_learn 21 = .ok (.invokevirtual 69, 3) := by decide +kernel
theorem dX4_learn_24 : decode cX4_learn 24 = .ok (.ireturn, 1) := by decide +kernel
theorem dX4_learn_25 : decode cX4_learn 25 = .ok (.aload_n 0, 1) := by decide +kernel
theorem dX4_learn_26 : decode cX4_learn 26 = .ok (.getfield 26, 3) := by decide +kernel
theorem dX4_learn_29 : decode cX4_learn 29 = .ok (.iload_n 1, 1) := by decide +kernel
theorem dX4_learn_30 : decode cX4_learn 30 = .ok (.iaload, 1) := by decide +kernel
theorem dX4_learn_31 : decode cX4_learn 31 = .ok (.istore_n 3, 1) := by decide +kernel
theorem dX4_learn_32 : decode cX4_learn 32 = .ok (.aload_n 0, 1) := by decide +kernel
theorem dX4_learn_33 : decode cX4_learn 33 = .ok (.getfield 26, 3) := by decide +kernel
theorem dX4_learn_36 : decode cX4_learn 36 = .ok (.iload_n 1, 1) := by decide +kernel
theorem dX4_learn_37 : decode cX4_learn 37 = .ok (.iload_n 2, 1) := by decide +kernel
theorem dX4_learn_38 : decode cX4_learn 38 = .ok (.iastore, 1) := by decide +kernel
theorem dX4_learn_39 : decode cX4_learn 39 = .ok (.iload_n 3, 1) := by decide +kernel
theorem dX4_learn_40 : decode cX4_learn 40 = .ok (.ireturn, 1) := by decide +kernel
theorem dX4_seed_0 : decode cX4_seed 0 = .ok (.aload_n 0, 1) := by decide +kernel
theorem dX4_seed_1 : decode cX4_seed 1 = .ok (.getfield 52, 3) := by decide +kernel
theorem dX4_seed_4 : decode cX4_seed 4 = .ok (.istore_n 2, 1) := by decide +kernel
theorem dX4_seed_5 : decode cX4_seed 5 = .ok (.aload_n 0, 1) := by decide +kernel
theorem dX4_seed_6 : decode cX4_seed 6 = .ok (.iload_n 1, 1) := by decide +kernel
theorem dX4_seed_7 : decode cX4_seed 7 = .ok (.putfield 52, 3) := by decide +kernel
theorem dX4_seed_10 : decode cX4_seed 10 = .ok (.iload_n 2, 1) := by decide +kernel
theorem dX4_seed_11 : decode cX4_seed 11 = .ok (.ireturn, 1) := by decide +kernel
theorem dX4_keep_0 : decode cX4_keep 0 = .ok (.iconst 0, 1) := by decide +kernel
theorem dX4_keep_1 : decode cX4_keep 1 = .ok (.istore_n 2, 1) := by decide +kernel
theorem dX4_keep_2 : decode cX4_keep 2 = .ok (.iload_n 2, 1) := by decide +kernel
theorem dX4_keep_3 : decode cX4_keep 3 = .ok (.bipush 9, 2) := by decide +kernel
theorem dX4_keep_5 : decode cX4_keep 5 = .ok (.if_icmp .ge 18, 3) := by decide +kernel
theorem dX4_keep_8 : decode cX4_keep 8 = .ok (.aload_n 1, 1) := by decide +kernel
theorem dX4_keep_9 : decode cX4_keep 9 = .ok (.iload_n 2, 1) := by decide +kernel
theorem dX4_keep_10 : decode cX4_keep 10 = .ok (.aload_n 0, 1) := by decide +kernel
theorem dX4_keep_11 : decode cX4_keep 11 = .ok (.getfield 20, 3) := by decide +kernel
theorem dX4_keep_14 : decode cX4_keep 14 = .ok (.iload_n 2, 1) := by decide +kernel
theorem dX4_keep_15 : decode cX4_keep 15 = .ok (.iaload, 1) := by decide +kernel
theorem dX4_keep_16 : decode cX4_keep 16 = .ok (.iastore, 1) := by decide +kernel
theorem dX4_keep_17 : decode cX4_keep 17 = .ok (.iinc 2 1, 3) := by decide +kernel
theorem dX4_keep_20 : decode cX4_keep 20 = .ok (.goto (-18), 3) := by decide +kernel
theorem dX4_keep_23 : decode cX4_keep 23 = .ok (.iconst 0, 1) := by decide +kernel
theorem dX4_keep_24 : decode cX4_keep 24 = .ok (.istore_n 2, 1) := by decide +kernel
theorem dX4_keep_25 : decode cX4_keep 25 = .ok (.iload_n 2, 1) := by decide +kernel
theorem dX4_keep_26 : decode cX4_keep 26 = .ok (.bipush 6, 2) := by decide +kernel
theorem dX4_keep_28 : decode cX4_keep 28 = .ok (.if_icmp .ge 33, 3) := by decide +kernel
theorem dX4_keep_31 : decode cX4_keep 31 = .ok (.aload_n 1, 1) := by decide +kernel
theorem dX4_keep_32 : decode cX4_keep 32 = .ok (.bipush 9, 2) := by decide +kernel
theorem dX4_keep_34 : decode cX4_keep 34 = .ok (.iload_n 2, 1) := by decide +kernel
theorem dX4_keep_35 : decode cX4_keep 35 = .ok (.iadd, 1) := by decide +kernel
theorem dX4_keep_36 : decode cX4_keep 36 = .ok (.aload_n 0, 1) := by decide +kernel
theorem dX4_keep_37 : decode cX4_keep 37 = .ok (.getfield 23, 3) := by decide +kernel
theorem dX4_keep_40 : decode cX4_keep 40 = .ok (.iload_n 2, 1) := by decide +kernel
theorem dX4_keep_41 : decode cX4_keep 41 = .ok (.iaload, 1) := by decide +kernel
theorem dX4_keep_42 : decode cX4_keep 42 = .ok (.iastore, 1) := by decide +kernel
theorem dX4_keep_43 : decode cX4_keep 43 = .ok (.aload_n 1, 1) := by decide +kernel
theorem dX4_keep_44 : decode cX4_keep 44 = .ok (.bipush 15, 2) := by decide +kernel
theorem dX4_keep_46 : decode cX4_keep 46 = .ok (.iload_n 2, 1) := by decide +kernel
theorem dX4_keep_47 : decode cX4_keep 47 = .ok (.iadd, 1) := by decide +kernel
theorem dX4_keep_48 : decode cX4_keep 48 = .ok (.aload_n 0, 1) := by decide +kernel
theorem dX4_keep_49 : decode cX4_keep 49 = .ok (.getfield 26, 3) := by decide +kernel
theorem dX4_keep_52 : decode cX4_keep 52 = .ok (.iload_n 2, 1) := by decide +kernel
theorem dX4_keep_53 : decode cX4_keep 53 = .ok (.iaload, 1) := by decide +kernel
theorem dX4_keep_54 : decode cX4_keep 54 = .ok (.iastore, 1) := by decide +kernel
theorem dX4_keep_55 : decode cX4_keep 55 = .ok (.iinc 2 1, 3) := by decide +kernel
theorem dX4_keep_58 : decode cX4_keep 58 = .ok (.goto (-33), 3) := by decide +kernel
theorem dX4_keep_61 : decode cX4_keep 61 = .ok (.aload_n 1, 1) := by decide +kernel
theorem dX4_keep_62 : decode cX4_keep 62 = .ok (.bipush 21, 2) := by decide +kernel
theorem dX4_keep_64 : decode cX4_keep 64 = .ok (.aload_n 0, 1) := by decide +kernel
theorem dX4_keep_65 : decode cX4_keep 65 = .ok (.getfield 66, 3) := by decide +kernel
theorem dX4_keep_68 : decode cX4_keep 68 = .ok (.iastore, 1) := by decide +kernel
theorem dX4_keep_69 : decode cX4_keep 69 = .ok (.aload_n 1, 1) := by decide +kernel
theorem dX4_keep_70 : decode cX4_keep 70 = .ok (.bipush 22, 2) := by decide +kernel
theorem dX4_keep_72 : decode cX4_keep 72 = .ok (.aload_n 0, 1) := by decide +kernel
theorem dX4_keep_73 : decode cX4_keep 73 = .ok (.getfield 111, 3) := by decide +kernel
theorem dX4_keep_76 : decode cX4_keep 76 = .ok (.iastore, 1) := by decide +kernel
theorem dX4_keep_77 : decode cX4_keep 77 = .ok (.aload_n 1, 1) := by decide +kernel
theorem dX4_keep_78 : decode cX4_keep 78 = .ok (.bipush 23, 2) := by decide +kernel
theorem dX4_keep_80 : decode cX4_keep 80 = .ok (.bipush 10, 2) := by decide +kernel
theorem dX4_keep_82 : decode cX4_keep 82 = .ok (.aload_n 0, 1) := by decide +kernel
theorem dX4_keep_83 : decode cX4_keep 83 = .ok (.getfield 59, 3) := by decide +kernel
theorem dX4_keep_86 : decode cX4_keep 86 = .ok (.imul, 1) := by decide +kernel
theorem dX4_keep_87 : decode cX4_keep 87 = .ok (.aload_n 0, 1) := by decide +kernel
theorem dX4_keep_88 : decode cX4_keep 88 = .ok (.getfield 48, 3) := by decide +kernel
theorem dX4_keep_91 : decode cX4_keep 91 = .ok (.iadd, 1) := by decide +kernel
theorem dX4_keep_92 : decode cX4_keep 92 = .ok (.iastore, 1) := by decide +kernel
theorem dX4_keep_93 : decode cX4_keep 93 = .ok (.aload_n 1, 1) := by decide +kernel
theorem dX4_keep_94 : decode cX4_keep 94 = .ok (.bipush 24, 2) := by decide +kernel
theorem dX4_keep_96 : decode cX4_keep 96 = .ok (.aload_n 0, 1) := by decide +kernel
theorem dX4_keep_97 : decode cX4_keep 97 = .ok (.getfield 268, 3) := by decide +kernel
theorem dX4_keep_100 : decode cX4_keep 100 = .ok (.iastore, 1) := by decide +kernel
theorem dX4_keep_101 : decode cX4_keep 101 = .ok (.aload_n 1, 1) := by decide +kernel
theorem dX4_keep_102 : decode cX4_keep 102 = .ok (.bipush 25, 2) := by decide +kernel
theorem dX4_keep_104 : decode cX4_keep 104 = .ok (.aload_n 0, 1) := by decide +kernel
theorem dX4_keep_105 : decode cX4_keep 105 = .ok (.getfield 262, 3) := by decide +kernel
theorem dX4_keep_108 : decode cX4_keep 108 = .ok (.iastore, 1) := by decide +kernel
theorem dX4_keep_109 : decode cX4_keep 109 = .ok (.aload_n 1, 1) := by decide +kernel
theorem dX4_keep_110 : decode cX4_keep 110 = .ok (.bipush 26, 2) := by decide +kernel
theorem dX4_keep_112 : decode cX4_keep 112 = .ok (.aload_n 0, 1) := by decide +kernel
theorem dX4_keep_113 : decode cX4_keep 113 = .ok (.getfield 265, 3) := by decide +kernel
theorem dX4_keep_116 : decode cX4_keep 116 = .ok (.iastore, 1) := by decide +kernel
theorem dX4_keep_117 : decode cX4_keep 117 = .ok (.aload_n 1, 1) := by decide +kernel
theorem dX4_keep_118 : decode cX4_keep 118 = .ok (.bipush 27, 2) := by decide +kernel
theorem dX4_keep_120 : decode cX4_keep 120 = .ok (.aload_n 0, 1) := by decide +kernel
theorem dX4_keep_121 : decode cX4_keep 121 = .ok (.getfield 52, 3) := by decide +kernel
theorem dX4_keep_124 : decode cX4_keep 124 = .ok (.iastore, 1) := by decide +kernel
theorem dX4_keep_125 : decode cX4_keep 125 = .ok (.return_, 1) := by decide +kernel
theorem dX4_again_0 : decode cX4_again 0 = .ok (.iconst 0, 1) := by decide +kernel
theorem dX4_again_1 : decode cX4_again 1 = .ok (.istore_n 2, 1) := by decide +kernel
theorem dX4_again_2 : decode cX4_again 2 = .ok (.iload_n 2, 1) := by decide +kernel
theorem dX4_again_3 : decode cX4_again 3 = .ok (.bipush 9, 2) := by decide +kernel
theorem dX4_again_5 : decode cX4_again 5 = .ok (.if_icmp .ge 18, 3) := by decide +kernel
theorem dX4_again_8 : decode cX4_again 8 = .ok (.aload_n 0, 1) := by decide +kernel
theorem dX4_again_9 : decode cX4_again 9 = .ok (.getfield 20, 3) := by decide +kernel
theorem dX4_again_12 : decode cX4_again 12 = .ok (.iload_n 2, 1) := by decide +kernel
theorem dX4_again_13 : decode cX4_again 13 = .ok (.aload_n 1, 1) := by decide +kernel
theorem dX4_again_14 : decode cX4_again 14 = .ok (.iload_n 2, 1) := by decide +kernel
theorem dX4_again_15 : decode cX4_again 15 = .ok (.iaload, 1) := by decide +kernel
theorem dX4_again_16 : decode cX4_again 16 = .ok (.iastore, 1) := by decide +kernel
theorem dX4_again_17 : decode cX4_again 17 = .ok (.iinc 2 1, 3) := by decide +kernel
theorem dX4_again_20 : decode cX4_again 20 = .ok (.goto (-18), 3) := by decide +kernel
theorem dX4_again_23 : decode cX4_again 23 = .ok (.iconst 0, 1) := by decide +kernel
theorem dX4_again_24 : decode cX4_again 24 = .ok (.istore_n 2, 1) := by decide +kernel
theorem dX4_again_25 : decode cX4_again 25 = .ok (.iload_n 2, 1) := by decide +kernel
theorem dX4_again_26 : decode cX4_again 26 = .ok (.bipush 6, 2) := by decide +kernel
theorem dX4_again_28 : decode cX4_again 28 = .ok (.if_icmp .ge 33, 3) := by decide +kernel
theorem dX4_again_31 : decode cX4_again 31 = .ok (.aload_n 0, 1) := by decide +kernel
theorem dX4_again_32 : decode cX4_again 32 = .ok (.getfield 23, 3) := by decide +kernel
theorem dX4_again_35 : decode cX4_again 35 = .ok (.iload_n 2, 1) := by decide +kernel
theorem dX4_again_36 : decode cX4_again 36 = .ok (.aload_n 1, 1) := by decide +kernel
theorem dX4_again_37 : decode cX4_again 37 = .ok (.bipush 9, 2) := by decide +kernel
theorem dX4_again_39 : decode cX4_again 39 = .ok (.iload_n 2, 1) := by decide +kernel
theorem dX4_again_40 : decode cX4_again 40 = .ok (.iadd, 1) := by decide +kernel
theorem dX4_again_41 : decode cX4_again 41 = .ok (.iaload, 1) := by decide +kernel
theorem dX4_again_42 : decode cX4_again 42 = .ok (.iastore, 1) := by decide +kernel
theorem dX4_again_43 : decode cX4_again 43 = .ok (.aload_n 0, 1) := by decide +kernel
theorem dX4_again_44 : decode cX4_again 44 = .ok (.getfield 26, 3) := by decide +kernel
theorem dX4_again_47 : decode cX4_again 47 = .ok (.iload_n 2, 1) := by decide +kernel
theorem dX4_again_48 : decode cX4_again 48 = .ok (.aload_n 1, 1) := by decide +kernel
theorem dX4_again_49 : decode cX4_again 49 = .ok (.bipush 15, 2) := by decide +kernel
theorem dX4_again_51 : decode cX4_again 51 = .ok (.iload_n 2, 1) := by decide +kernel
theorem dX4_again_52 : decode cX4_again 52 = .ok (.iadd, 1) := by decide +kernel
theorem dX4_again_53 : decode cX4_again 53 = .ok (.iaload, 1) := by decide +kernel
theorem dX4_again_54 : decode cX4_again 54 = .ok (.iastore, 1) := by decide +kernel
theorem dX4_again_55 : decode cX4_again 55 = .ok (.iinc 2 1, 3) := by decide +kernel
theorem dX4_again_58 : decode cX4_again 58 = .ok (.goto (-33), 3) := by decide +kernel
theorem dX4_again_61 : decode cX4_again 61 = .ok (.aload_n 0, 1) := by decide +kernel
theorem dX4_again_62 : decode cX4_again 62 = .ok (.aload_n 1, 1) := by decide +kernel
theorem dX4_again_63 : decode cX4_again 63 = .ok (.bipush 21, 2) := by decide +kernel
theorem dX4_again_65 : decode cX4_again 65 = .ok (.iaload, 1) := by decide +kernel
theorem dX4_again_66 : decode cX4_again 66 = .ok (.putfield 66, 3) := by decide +kernel
theorem dX4_again_69 : decode cX4_again 69 = .ok (.aload_n 0, 1) := by decide +kernel
theorem dX4_again_70 : decode cX4_again 70 = .ok (.aload_n 1, 1) := by decide +kernel
theorem dX4_again_71 : decode cX4_again 71 = .ok (.bipush 22, 2) := by decide +kernel
theorem dX4_again_73 : decode cX4_again 73 = .ok (.iaload, 1) := by decide +kernel
theorem dX4_again_74 : decode cX4_again 74 = .ok (.putfield 111, 3) := by decide +kernel
theorem dX4_again_77 : decode cX4_again 77 = .ok (.aload_n 0, 1) := by decide +kernel
theorem dX4_again_78 : decode cX4_again 78 = .ok (.aload_n 1, 1) := by decide +kernel
theorem dX4_again_79 : decode cX4_again 79 = .ok (.bipush 23, 2) := by decide +kernel
theorem dX4_again_81 : decode cX4_again 81 = .ok (.iaload, 1) := by decide +kernel
theorem dX4_again_82 : decode cX4_again 82 = .ok (.bipush 10, 2) := by decide +kernel
theorem dX4_again_84 : decode cX4_again 84 = .ok (.idiv, 1) := by decide +kernel
theorem dX4_again_85 : decode cX4_again 85 = .ok (.putfield 59, 3) := by decide +kernel
theorem dX4_again_88 : decode cX4_again 88 = .ok (.aload_n 0, 1) := by decide +kernel
theorem dX4_again_89 : decode cX4_again 89 = .ok (.aload_n 1, 1) := by decide +kernel
theorem dX4_again_90 : decode cX4_again 90 = .ok (.bipush 23, 2) := by decide +kernel
theorem dX4_again_92 : decode cX4_again 92 = .ok (.iaload, 1) := by decide +kernel
theorem dX4_again_93 : decode cX4_again 93 = .ok (.bipush 10, 2) := by decide +kernel
theorem dX4_again_95 : decode cX4_again 95 = .ok (.irem, 1) := by decide +kernel
theorem dX4_again_96 : decode cX4_again 96 = .ok (.putfield 48, 3) := by decide +kernel
theorem dX4_again_99 : decode cX4_again 99 = .ok (.aload_n 0, 1) := by decide +kernel
theorem dX4_again_100 : decode cX4_again 100 = .ok (.aload_n 1, 1) := by decide +kernel
theorem dX4_again_101 : decode cX4_again 101 = .ok (.bipush 24, 2) := by decide +kernel
theorem dX4_again_103 : decode cX4_again 103 = .ok (.iaload, 1) := by decide +kernel
theorem dX4_again_104 : decode cX4_again 104 = .ok (.putfield 268, 3) := by decide +kernel
theorem dX4_again_107 : decode cX4_again 107 = .ok (.aload_n 0, 1) := by decide +kernel
theorem dX4_again_108 : decode cX4_again 108 = .ok (.aload_n 1, 1) := by decide +kernel
theorem dX4_again_109 : decode cX4_again 109 = .ok (.bipush 25, 2) := by decide +kernel
theorem dX4_again_111 : decode cX4_again 111 = .ok (.iaload, 1) := by decide +kernel
theorem dX4_again_112 : decode cX4_again 112 = .ok (.putfield 262, 3) := by decide +kernel
theorem dX4_again_115 : decode cX4_again 115 = .ok (.aload_n 0, 1) := by decide +kernel
theorem dX4_again_116 : decode cX4_again 116 = .ok (.aload_n 1, 1) := by decide +kernel
theorem dX4_again_117 : decode cX4_again 117 = .ok (.bipush 26, 2) := by decide +kernel
theorem dX4_again_119 : decode cX4_again 119 = .ok (.iaload, 1) := by decide +kernel
theorem dX4_again_120 : decode cX4_again 120 = .ok (.putfield 265, 3) := by decide +kernel
theorem dX4_again_123 : decode cX4_again 123 = .ok (.aload_n 0, 1) := by decide +kernel
theorem dX4_again_124 : decode cX4_again 124 = .ok (.aload_n 1, 1) := by decide +kernel
theorem dX4_again_125 : decode cX4_again 125 = .ok (.bipush 27, 2) := by decide +kernel
theorem dX4_again_127 : decode cX4_again 127 = .ok (.iaload, 1) := by decide +kernel
theorem dX4_again_128 : decode cX4_again 128 = .ok (.putfield 52, 3) := by decide +kernel
theorem dX4_again_131 : decode cX4_again 131 = .ok (.return_, 1) := by decide +kernel
theorem dX4_image_0 : decode cX4_image 0 = .ok (.aload_n 0, 1) := by decide +kernel
theorem dX4_image_1 : decode cX4_image 1 = .ok (.iconst 1, 1) := by decide +kernel
theorem dX4_image_2 : decode cX4_image 2 = .ok (.putfield 274, 3) := by decide +kernel
theorem dX4_image_5 : decode cX4_image 5 = .ok (.aload_n 0, 1) := by decide +kernel
theorem dX4_image_6 : decode cX4_image 6 = .ok (.aload_n 0, 1) := by decide +kernel
theorem dX4_image_7 : decode cX4_image 7 = .ok (.getfield 35, 3) := by decide +kernel
theorem dX4_image_10 : decode cX4_image 10 = .ok (.invokevirtual 174, 3) := by decide +kernel
theorem dX4_image_13 : decode cX4_image 13 = .ok (.iconst 1, 1) := by decide +kernel
theorem dX4_image_14 : decode cX4_image 14 = .ok (.ireturn, 1) := by decide +kernel
theorem dX4_back_0 : decode cX4_back 0 = .ok (.aload_n 0, 1) := by decide +kernel
theorem dX4_back_1 : decode cX4_back 1 = .ok (.getfield 274, 3) := by decide +kernel
theorem dX4_back_4 : decode cX4_back 4 = .ok (.ifCond .ne 10, 3) := by decide +kernel
theorem dX4_back_7 : decode cX4_back 7 = .ok (.aload_n 0, 1) := by decide +kernel
theorem dX4_back_8 : decode cX4_back 8 = .ok (.bipush (-5), 2) := by decide +kernel
theorem dX4_back_10 : decode cX4_back 10 = .ok (.invokevirtual 69, 3) := by decide +kernel
theorem dX4_back_13 : decode cX4_back 13 = .ok (.ireturn, 1) := by decide +kernel
theorem dX4_back_14 : decode cX4_back 14 = .ok (.aload_n 0, 1) := by decide +kernel
theorem dX4_back_15 : decode cX4_back 15 = .ok (.aload_n 0, 1) := by decide +kernel
theorem dX4_back_16 : decode cX4_back 16 = .ok (.getfield 35, 3) := by decide +kernel
theorem dX4_back_19 : decode cX4_back 19 = .ok (.invokevirtual 182, 3) := by decide +kernel
theorem dX4_back_22 : decode cX4_back 22 = .ok (.iconst 0, 1) := by decide +kernel
theorem dX4_back_23 : decode cX4_back 23 = .ok (.istore_n 1, 1) := by decide +kernel
theorem dX4_back_24 : decode cX4_back 24 = .ok (.iload_n 1, 1) := by decide +kernel
theorem dX4_back_25 : decode cX4_back 25 = .ok (.bipush 8, 2) := by decide +kernel
theorem dX4_back_27 : decode cX4_back 27 = .ok (.if_icmp .ge 32, 3) := by decide +kernel
theorem dX4_back_30 : decode cX4_back 30 = .ok (.aload_n 0, 1) := by decide +kernel
theorem dX4_back_31 : decode cX4_back 31 = .ok (.getfield 7, 3) := by decide +kernel
theorem dX4_back_34 : decode cX4_back 34 = .ok (.iload_n 1, 1) := by decide +kernel
theorem dX4_back_35 : decode cX4_back 35 = .ok (.iaload, 1) := by decide +kernel
theorem dX4_back_36 : decode cX4_back 36 = .ok (.bipush 10, 2) := by decide +kernel
theorem dX4_back_38 : decode cX4_back 38 = .ok (.aload_n 0, 1) := by decide +kernel
theorem dX4_back_39 : decode cX4_back 39 = .ok (.getfield 59, 3) := by decide +kernel
theorem dX4_back_42 : decode cX4_back 42 = .ok (.iadd, 1) := by decide +kernel
theorem dX4_back_43 : decode cX4_back 43 = .ok (.if_icmp .lt 10, 3) := by decide +kernel
theorem dX4_back_46 : decode cX4_back 46 = .ok (.aload_n 0, 1) := by decide +kernel
theorem dX4_back_47 : decode cX4_back 47 = .ok (.getfield 7, 3) := by decide +kernel
theorem dX4_back_50 : decode cX4_back 50 = .ok (.iload_n 1, 1) := by decide +kernel
theorem dX4_back_51 : decode cX4_back 51 = .ok (.iconst (-1), 1) := by decide +kernel
theorem dX4_back_52 : decode cX4_back 52 = .ok (.iastore, 1) := by decide +kernel
theorem dX4_back_53 : decode cX4_back 53 = .ok (.iinc 1 1, 3) := by decide +kernel
theorem dX4_back_56 : decode cX4_back 56 = .ok (.goto (-32), 3) := by decide +kernel
theorem dX4_back_59 : decode cX4_back 59 = .ok (.iconst 1, 1) := by decide +kernel
theorem dX4_back_60 : decode cX4_back 60 = .ok (.ireturn, 1) := by decide +kernel
theorem dX4_status_0 : decode cX4_status 0 = .ok (.iconst 0, 1) := by decide +kernel
theorem dX4_status_1 : decode cX4_status 1 = .ok (.istore_n 2, 1) := by decide +kernel
theorem dX4_status_2 : decode cX4_status 2 = .ok (.iload_n 1, 1) := by decide +kernel
theorem dX4_status_3 : decode cX4_status 3 = .ok (.tableswitch 149 0 11 #[61, 66, 71, 76, 81, 90, 95, 100, 105, 110, 115, 144], 61) := by decide +kernel
theorem dX4_status_64 : decode cX4_status 64 = .ok (.aload_n 0, 1) := by decide +kernel
theorem dX4_status_65 : decode cX4_status 65 = .ok (.getfield 66, 3) := by decide +kernel
theorem dX4_status_68 : decode cX4_status 68 = .ok (.ireturn, 1) := by decide +kernel
theorem dX4_status_69 : decode cX4_status 69 = .ok (.aload_n 0, 1) := by decide +kernel
theorem dX4_status_70 : decode cX4_status 70 = .ok (.getfield 59, 3) := by decide +kernel
theorem dX4_status_73 : decode cX4_status 73 = .ok (.ireturn, 1) := by decide +kernel
theorem dX4_status_74 : decode cX4_status 74 = .ok (.aload_n 0, 1) := by decide +kernel
theorem dX4_status_75 : decode cX4_status 75 = .ok (.getfield 48, 3) := by decide +kernel
theorem dX4_status_78 : decode cX4_status 78 = .ok (.ireturn, 1) := by decide +kernel
theorem dX4_status_79 : decode cX4_status 79 = .ok (.aload_n 0, 1) := by decide +kernel
theorem dX4_status_80 : decode cX4_status 80 = .ok (.getfield 111, 3) := by decide +kernel
theorem dX4_status_83 : decode cX4_status 83 = .ok (.ireturn, 1) := by decide +kernel
theorem dX4_status_84 : decode cX4_status 84 = .ok (.aload_n 0, 1) := by decide +kernel
theorem dX4_status_85 : decode cX4_status 85 = .ok (.aload_n 0, 1) := by decide +kernel
theorem dX4_status_86 : decode cX4_status 86 = .ok (.getfield 111, 3) := by decide +kernel
theorem dX4_status_89 : decode cX4_status 89 = .ok (.invokevirtual 199, 3) := by decide +kernel
theorem dX4_status_92 : decode cX4_status 92 = .ok (.ireturn, 1) := by decide +kernel
theorem dX4_status_93 : decode cX4_status 93 = .ok (.aload_n 0, 1) := by decide +kernel
theorem dX4_status_94 : decode cX4_status 94 = .ok (.getfield 268, 3) := by decide +kernel
theorem dX4_status_97 : decode cX4_status 97 = .ok (.ireturn, 1) := by decide +kernel
theorem dX4_status_98 : decode cX4_status 98 = .ok (.aload_n 0, 1) := by decide +kernel
theorem dX4_status_99 : decode cX4_status 99 = .ok (.getfield 262, 3) := by decide +kernel
theorem dX4_status_102 : decode cX4_status 102 = .ok (.ireturn, 1) := by decide +kernel
theorem dX4_status_103 : decode cX4_status 103 = .ok (.aload_n 0, 1) := by decide +kernel
theorem dX4_status_104 : decode cX4_status 104 = .ok (.getfield 265, 3) := by decide +kernel
theorem dX4_status_107 : decode cX4_status 107 = .ok (.ireturn, 1) := by decide +kernel
theorem dX4_status_108 : decode cX4_status 108 = .ok (.aload_n 0, 1) := by decide +kernel
theorem dX4_status_109 : decode cX4_status 109 = .ok (.getfield 124, 3) := by decide +kernel
theorem dX4_status_112 : decode cX4_status 112 = .ok (.ireturn, 1) := by decide +kernel
theorem dX4_status_113 : decode cX4_status 113 = .ok (.aload_n 0, 1) := by decide +kernel
theorem dX4_status_114 : decode cX4_status 114 = .ok (.getfield 52, 3) := by decide +kernel
theorem dX4_status_117 : decode cX4_status 117 = .ok (.ireturn, 1) := by decide +kernel
theorem dX4_status_118 : decode cX4_status 118 = .ok (.iconst 0, 1) := by decide +kernel
theorem dX4_status_119 : decode cX4_status 119 = .ok (.istore_n 3, 1) := by decide +kernel
theorem dX4_status_120 : decode cX4_status 120 = .ok (.iload_n 3, 1) := by decide +kernel
theorem dX4_status_121 : decode cX4_status 121 = .ok (.bipush 8, 2) := by decide +kernel
theorem dX4_status_123 : decode cX4_status 123 = .ok (.if_icmp .ge 22, 3) := by decide +kernel
theorem dX4_status_126 : decode cX4_status 126 = .ok (.aload_n 0, 1) := by decide +kernel
theorem dX4_status_127 : decode cX4_status 127 = .ok (.getfield 7, 3) := by decide +kernel
theorem dX4_status_130 : decode cX4_status 130 = .ok (.iload_n 3, 1) := by decide +kernel
theorem dX4_status_131 : decode cX4_status 131 = .ok (.iaload, 1) := by decide +kernel
theorem dX4_status_132 : decode cX4_status 132 = .ok (.iconst (-1), 1) := by decide +kernel
theorem dX4_status_133 : decode cX4_status 133 = .ok (.if_icmp .eq 6, 3) := by decide +kernel
theorem dX4_status_136 : decode cX4_status 136 = .ok (.iinc 2 1, 3) := by decide +kernel
theorem dX4_status_139 : decode cX4_status 139 = .ok (.iinc 3 1, 3) := by decide +kernel
theorem dX4_status_142 : decode cX4_status 142 = .ok (.goto (-22), 3) := by decide +kernel
theorem dX4_status_145 : decode cX4_status 145 = .ok (.iload_n 2, 1) := by decide +kernel
theorem dX4_status_146 : decode cX4_status 146 = .ok (.ireturn, 1) := by decide +kernel
theorem dX4_status_147 : decode cX4_status 147 = .ok (.aload_n 0, 1) := by decide +kernel
theorem dX4_status_148 : decode cX4_status 148 = .ok (.invokevirtual 217, 3) := by decide +kernel
theorem dX4_status_151 : decode cX4_status 151 = .ok (.ireturn, 1) := by decide +kernel
theorem dX4_status_152 : decode cX4_status 152 = .ok (.iload_n 1, 1) := by decide +kernel
theorem dX4_status_153 : decode cX4_status 153 = .ok (.bipush 12, 2) := by decide +kernel
theorem dX4_status_155 : decode cX4_status 155 = .ok (.bipush 16, 2) := by decide +kernel
theorem dX4_status_157 : decode cX4_status 157 = .ok (.invokestatic 62, 3) := by decide +kernel
theorem dX4_status_160 : decode cX4_status 160 = .ok (.ifCond .eq 15, 3) := by decide +kernel
theorem dX4_status_163 : decode cX4_status 163 = .ok (.aload_n 0, 1) := by decide +kernel
theorem dX4_status_164 : decode cX4_status 164 = .ok (.getfield 32, 3) := by decide +kernel
theorem dX4_status_167 : decode cX4_status 167 = .ok (.iload_n 1, 1) := by decide +kernel
theorem dX4_status_168 : decode cX4_status 168 = .ok (.bipush 10, 2) := by decide +kernel
theorem dX4_status_170 : decode cX4_status 170 = .ok (.isub, 1) := by decide +kernel
theorem dX4_status_171 : decode cX4_status 171 = .ok (.iaload, 1) := by decide +kernel
theorem dX4_status_172 : decode cX4_status 172 = .ok (.goto 4, 3) := by decide +kernel
theorem dX4_status_175 : decode cX4_status 175 = .ok (.iconst (-1), 1) := by decide +kernel
theorem dX4_status_176 : decode cX4_status 176 = .ok (.ireturn, 1) := by decide +kernel
theorem dJ6_highestOneBit_0f7a4_0 : decode cJ6_highestOneBit_0f7a4 0 = .ok (.iload_n 0, 1) := by decide +kernel
theorem dJ6_highestOneBit_0f7a4_1 : decode cJ6_highestOneBit_0f7a4 1 = .ok (.ldc 127, 2) := by decide +kernel
theorem dJ6_highestOneBit_0f7a4_3 : decode cJ6_highestOneBit_0f7a4 3 = .ok (.iload_n 0, 1) := by decide +kernel
theorem dJ6_highestOneBit_0f7a4_4 : decode cJ6_highestOneBit_0f7a4 4 = .ok (.invokestatic 51, 3) := by decide +kernel
theorem dJ6_highestOneBit_0f7a4_7 : decode cJ6_highestOneBit_0f7a4 7 = .ok (.iushr, 1) := by decide +kernel
theorem dJ6_highestOneBit_0f7a4_8 : decode cJ6_highestOneBit_0f7a4 8 = .ok (.iand, 1) := by decide +kernel
theorem dJ6_highestOneBit_0f7a4_9 : decode cJ6_highestOneBit_0f7a4 9 = .ok (.ireturn, 1) := by decide +kernel
theorem dJ6_numberOfLeadingZeros_0f7a4_0 : decode cJ6_numberOfLeadingZeros_0f7a4 0 = .ok (.iload_n 0, 1) := by decide +kernel
theorem dJ6_numberOfLeadingZeros_0f7a4_1 : decode cJ6_numberOfLeadingZeros_0f7a4 1 = .ok (.ifCond .gt 14, 3) := by decide +kernel
theorem dJ6_numberOfLeadingZeros_0f7a4_4 : decode cJ6_numberOfLeadingZeros_0f7a4 4 = .ok (.iload_n 0, 1) := by decide +kernel
theorem dJ6_numberOfLeadingZeros_0f7a4_5 : decode cJ6_numberOfLeadingZeros_0f7a4 5 = .ok (.ifCond .ne 8, 3) := by decide +kernel
theorem dJ6_numberOfLeadingZeros_0f7a4_8 : decode cJ6_numberOfLeadingZeros_0f7a4 8 = .ok (.bipush 32, 2) := by decide +kernel
theorem dJ6_numberOfLeadingZeros_0f7a4_10 : decode cJ6_numberOfLeadingZeros_0f7a4 10 = .ok (.goto 4, 3) := by decide +kernel
theorem dJ6_numberOfLeadingZeros_0f7a4_13 : decode cJ6_numberOfLeadingZeros_0f7a4 13 = .ok (.iconst 0, 1) := by decide +kernel
theorem dJ6_numberOfLeadingZeros_0f7a4_14 : decode cJ6_numberOfLeadingZeros_0f7a4 14 = .ok (.ireturn, 1) := by decide +kernel
theorem dJ6_numberOfLeadingZeros_0f7a4_15 : decode cJ6_numberOfLeadingZeros_0f7a4 15 = .ok (.bipush 31, 2) := by decide +kernel
theorem dJ6_numberOfLeadingZeros_0f7a4_17 : decode cJ6_numberOfLeadingZeros_0f7a4 17 = .ok (.istore_n 1, 1) := by decide +kernel
theorem dJ6_numberOfLeadingZeros_0f7a4_18 : decode cJ6_numberOfLeadingZeros_0f7a4 18 = .ok (.iload_n 0, 1) := by decide +kernel
theorem dJ6_numberOfLeadingZeros_0f7a4_19 : decode cJ6_numberOfLeadingZeros_0f7a4 19 = .ok (.ldc_w 264, 3) := by decide +kernel
theorem dJ6_numberOfLeadingZeros_0f7a4_22 : decode cJ6_numberOfLeadingZeros_0f7a4 22 = .ok (.if_icmp .lt 11, 3) := by decide +kernel
theorem dJ6_numberOfLeadingZeros_0f7a4_25 : decode cJ6_numberOfLeadingZeros_0f7a4 25 = .ok (.iinc 1 (-16), 3) := by decide +kernel
theorem dJ6_numberOfLeadingZeros_0f7a4_28 : decode cJ6_numberOfLeadingZeros_0f7a4 28 = .ok (.iload_n 0, 1) := by decide +kernel
theorem dJ6_numberOfLeadingZeros_0f7a4_29 : decode cJ6_numberOfLeadingZeros_0f7a4 29 = .ok (.bipush 16, 2) := by decide +kernel
theorem dJ6_numberOfLeadingZeros_0f7a4_31 : decode cJ6_numberOfLeadingZeros_0f7a4 31 = .ok (.iushr, 1) := by decide +kernel
theorem dJ6_numberOfLeadingZeros_0f7a4_32 : decode cJ6_numberOfLeadingZeros_0f7a4 32 = .ok (.istore_n 0, 1) := by decide +kernel
theorem dJ6_numberOfLeadingZeros_0f7a4_33 : decode cJ6_numberOfLeadingZeros_0f7a4 33 = .ok (.iload_n 0, 1) := by decide +kernel
theorem dJ6_numberOfLeadingZeros_0f7a4_34 : decode cJ6_numberOfLeadingZeros_0f7a4 34 = .ok (.sipush 256, 3) := by decide +kernel
theorem dJ6_numberOfLeadingZeros_0f7a4_37 : decode cJ6_numberOfLeadingZeros_0f7a4 37 = .ok (.if_icmp .lt 11, 3) := by decide +kernel
theorem dJ6_numberOfLeadingZeros_0f7a4_40 : decode cJ6_numberOfLeadingZeros_0f7a4 40 = .ok (.iinc 1 (-8), 3) := by decide +kernel
theorem dJ6_numberOfLeadingZeros_0f7a4_43 : decode cJ6_numberOfLeadingZeros_0f7a4 43 = .ok (.iload_n 0, 1) := by decide +kernel
theorem dJ6_numberOfLeadingZeros_0f7a4_44 : decode cJ6_numberOfLeadingZeros_0f7a4 44 = .ok (.bipush 8, 2) := by decide +kernel
theorem dJ6_numberOfLeadingZeros_0f7a4_46 : decode cJ6_numberOfLeadingZeros_0f7a4 46 = .ok (.iushr, 1) := by decide +kernel
theorem dJ6_numberOfLeadingZeros_0f7a4_47 : decode cJ6_numberOfLeadingZeros_0f7a4 47 = .ok (.istore_n 0, 1) := by decide +kernel
theorem dJ6_numberOfLeadingZeros_0f7a4_48 : decode cJ6_numberOfLeadingZeros_0f7a4 48 = .ok (.iload_n 0, 1) := by decide +kernel
theorem dJ6_numberOfLeadingZeros_0f7a4_49 : decode cJ6_numberOfLeadingZeros_0f7a4 49 = .ok (.bipush 16, 2) := by decide +kernel
theorem dJ6_numberOfLeadingZeros_0f7a4_51 : decode cJ6_numberOfLeadingZeros_0f7a4 51 = .ok (.if_icmp .lt 10, 3) := by decide +kernel
theorem dJ6_numberOfLeadingZeros_0f7a4_54 : decode cJ6_numberOfLeadingZeros_0f7a4 54 = .ok (.iinc 1 (-4), 3) := by decide +kernel
theorem dJ6_numberOfLeadingZeros_0f7a4_57 : decode cJ6_numberOfLeadingZeros_0f7a4 57 = .ok (.iload_n 0, 1) := by decide +kernel
theorem dJ6_numberOfLeadingZeros_0f7a4_58 : decode cJ6_numberOfLeadingZeros_0f7a4 58 = .ok (.iconst 4, 1) := by decide +kernel
theorem dJ6_numberOfLeadingZeros_0f7a4_59 : decode cJ6_numberOfLeadingZeros_0f7a4 59 = .ok (.iushr, 1) := by decide +kernel
theorem dJ6_numberOfLeadingZeros_0f7a4_60 : decode cJ6_numberOfLeadingZeros_0f7a4 60 = .ok (.istore_n 0, 1) := by decide +kernel
theorem dJ6_numberOfLeadingZeros_0f7a4_61 : decode cJ6_numberOfLeadingZeros_0f7a4 61 = .ok (.iload_n 0, 1) := by decide +kernel
theorem dJ6_numberOfLeadingZeros_0f7a4_62 : decode cJ6_numberOfLeadingZeros_0f7a4 62 = .ok (.iconst 4, 1) := by decide +kernel
theorem dJ6_numberOfLeadingZeros_0f7a4_63 : decode cJ6_numberOfLeadingZeros_0f7a4 63 = .ok (.if_icmp .lt 10, 3) := by decide +kernel
theorem dJ6_numberOfLeadingZeros_0f7a4_66 : decode cJ6_numberOfLeadingZeros_0f7a4 66 = .ok (.iinc 1 (-2), 3) := by decide +kernel
theorem dJ6_numberOfLeadingZeros_0f7a4_69 : decode cJ6_numberOfLeadingZeros_0f7a4 69 = .ok (.iload_n 0, 1) := by decide +kernel
theorem dJ6_numberOfLeadingZeros_0f7a4_70 : decode cJ6_numberOfLeadingZeros_0f7a4 70 = .ok (.iconst 2, 1) := by decide +kernel
theorem dJ6_numberOfLeadingZeros_0f7a4_71 : decode cJ6_numberOfLeadingZeros_0f7a4 71 = .ok (.iushr, 1) := by decide +kernel
theorem dJ6_numberOfLeadingZeros_0f7a4_72 : decode cJ6_numberOfLeadingZeros_0f7a4 72 = .ok (.istore_n 0, 1) := by decide +kernel
theorem dJ6_numberOfLeadingZeros_0f7a4_73 : decode cJ6_numberOfLeadingZeros_0f7a4 73 = .ok (.iload_n 1, 1) := by decide +kernel
theorem dJ6_numberOfLeadingZeros_0f7a4_74 : decode cJ6_numberOfLeadingZeros_0f7a4 74 = .ok (.iload_n 0, 1) := by decide +kernel
theorem dJ6_numberOfLeadingZeros_0f7a4_75 : decode cJ6_numberOfLeadingZeros_0f7a4 75 = .ok (.iconst 1, 1) := by decide +kernel
theorem dJ6_numberOfLeadingZeros_0f7a4_76 : decode cJ6_numberOfLeadingZeros_0f7a4 76 = .ok (.iushr, 1) := by decide +kernel
theorem dJ6_numberOfLeadingZeros_0f7a4_77 : decode cJ6_numberOfLeadingZeros_0f7a4 77 = .ok (.isub, 1) := by decide +kernel
theorem dJ6_numberOfLeadingZeros_0f7a4_78 : decode cJ6_numberOfLeadingZeros_0f7a4 78 = .ok (.ireturn, 1) := by decide +kernel
theorem dJ6_numberOfTrailingZeros_0f7a4_0 : decode cJ6_numberOfTrailingZeros_0f7a4 0 = .ok (.iload_n 0, 1) := by decide +kernel
theorem dJ6_numberOfTrailingZeros_0f7a4_1 : decode cJ6_numberOfTrailingZeros_0f7a4 1 = .ok (.iconst (-1), 1) := by decide +kernel
theorem dJ6_numberOfTrailingZeros_0f7a4_2 : decode cJ6_numberOfTrailingZeros_0f7a4 2 = .ok (.ixor, 1) := by decide +kernel
theorem dJ6_numberOfTrailingZeros_0f7a4_3 : decode cJ6_numberOfTrailingZeros_0f7a4 3 = .ok (.iload_n 0, 1) := by decide +kernel
theorem dJ6_numberOfTrailingZeros_0f7a4_4 : decode cJ6_numberOfTrailingZeros_0f7a4 4 = .ok (.iconst 1, 1) := by decide +kernel
theorem dJ6_numberOfTrailingZeros_0f7a4_5 : decode cJ6_numberOfTrailingZeros_0f7a4 5 = .ok (.isub, 1) := by decide +kernel
theorem dJ6_numberOfTrailingZeros_0f7a4_6 : decode cJ6_numberOfTrailingZeros_0f7a4 6 = .ok (.iand, 1) := by decide +kernel
theorem dJ6_numberOfTrailingZeros_0f7a4_7 : decode cJ6_numberOfTrailingZeros_0f7a4 7 = .ok (.istore_n 0, 1) := by decide +kernel
theorem dJ6_numberOfTrailingZeros_0f7a4_8 : decode cJ6_numberOfTrailingZeros_0f7a4 8 = .ok (.iload_n 0, 1) := by decide +kernel
theorem dJ6_numberOfTrailingZeros_0f7a4_9 : decode cJ6_numberOfTrailingZeros_0f7a4 9 = .ok (.ifCond .gt 8, 3) := by decide +kernel
theorem dJ6_numberOfTrailingZeros_0f7a4_12 : decode cJ6_numberOfTrailingZeros_0f7a4 12 = .ok (.iload_n 0, 1) := by decide +kernel
theorem dJ6_numberOfTrailingZeros_0f7a4_13 : decode cJ6_numberOfTrailingZeros_0f7a4 13 = .ok (.bipush 32, 2) := by decide +kernel
theorem dJ6_numberOfTrailingZeros_0f7a4_15 : decode cJ6_numberOfTrailingZeros_0f7a4 15 = .ok (.iand, 1) := by decide +kernel
theorem dJ6_numberOfTrailingZeros_0f7a4_16 : decode cJ6_numberOfTrailingZeros_0f7a4 16 = .ok (.ireturn, 1) := by decide +kernel
theorem dJ6_numberOfTrailingZeros_0f7a4_17 : decode cJ6_numberOfTrailingZeros_0f7a4 17 = .ok (.iconst 1, 1) := by decide +kernel
theorem dJ6_numberOfTrailingZeros_0f7a4_18 : decode cJ6_numberOfTrailingZeros_0f7a4 18 = .ok (.istore_n 1, 1) := by decide +kernel
theorem dJ6_numberOfTrailingZeros_0f7a4_19 : decode cJ6_numberOfTrailingZeros_0f7a4 19 = .ok (.iload_n 0, 1) := by decide +kernel
theorem dJ6_numberOfTrailingZeros_0f7a4_20 : decode cJ6_numberOfTrailingZeros_0f7a4 20 = .ok (.ldc_w 264, 3) := by decide +kernel
theorem dJ6_numberOfTrailingZeros_0f7a4_23 : decode cJ6_numberOfTrailingZeros_0f7a4 23 = .ok (.if_icmp .le 11, 3) := by decide +kernel
theorem dJ6_numberOfTrailingZeros_0f7a4_26 : decode cJ6_numberOfTrailingZeros_0f7a4 26 = .ok (.iinc 1 16, 3) := by decide +kernel
theorem dJ6_numberOfTrailingZeros_0f7a4_29 : decode cJ6_numberOfTrailingZeros_0f7a4 29 = .ok (.iload_n 0, 1) := by decide +kernel
theorem dJ6_numberOfTrailingZeros_0f7a4_30 : decode cJ6_numberOfTrailingZeros_0f7a4 30 = .ok (.bipush 16, 2) := by decide +kernel
theorem dJ6_numberOfTrailingZeros_0f7a4_32 : decode cJ6_numberOfTrailingZeros_0f7a4 32 = .ok (.iushr, 1) := by decide +kernel
theorem dJ6_numberOfTrailingZeros_0f7a4_33 : decode cJ6_numberOfTrailingZeros_0f7a4 33 = .ok (.istore_n 0, 1) := by decide +kernel
theorem dJ6_numberOfTrailingZeros_0f7a4_34 : decode cJ6_numberOfTrailingZeros_0f7a4 34 = .ok (.iload_n 0, 1) := by decide +kernel
theorem dJ6_numberOfTrailingZeros_0f7a4_35 : decode cJ6_numberOfTrailingZeros_0f7a4 35 = .ok (.sipush 256, 3) := by decide +kernel
theorem dJ6_numberOfTrailingZeros_0f7a4_38 : decode cJ6_numberOfTrailingZeros_0f7a4 38 = .ok (.if_icmp .le 11, 3) := by decide +kernel
theorem dJ6_numberOfTrailingZeros_0f7a4_41 : decode cJ6_numberOfTrailingZeros_0f7a4 41 = .ok (.iinc 1 8, 3) := by decide +kernel
theorem dJ6_numberOfTrailingZeros_0f7a4_44 : decode cJ6_numberOfTrailingZeros_0f7a4 44 = .ok (.iload_n 0, 1) := by decide +kernel
theorem dJ6_numberOfTrailingZeros_0f7a4_45 : decode cJ6_numberOfTrailingZeros_0f7a4 45 = .ok (.bipush 8, 2) := by decide +kernel
theorem dJ6_numberOfTrailingZeros_0f7a4_47 : decode cJ6_numberOfTrailingZeros_0f7a4 47 = .ok (.iushr, 1) := by decide +kernel
theorem dJ6_numberOfTrailingZeros_0f7a4_48 : decode cJ6_numberOfTrailingZeros_0f7a4 48 = .ok (.istore_n 0, 1) := by decide +kernel
theorem dJ6_numberOfTrailingZeros_0f7a4_49 : decode cJ6_numberOfTrailingZeros_0f7a4 49 = .ok (.iload_n 0, 1) := by decide +kernel
theorem dJ6_numberOfTrailingZeros_0f7a4_50 : decode cJ6_numberOfTrailingZeros_0f7a4 50 = .ok (.bipush 16, 2) := by decide +kernel
theorem dJ6_numberOfTrailingZeros_0f7a4_52 : decode cJ6_numberOfTrailingZeros_0f7a4 52 = .ok (.if_icmp .le 10, 3) := by decide +kernel
theorem dJ6_numberOfTrailingZeros_0f7a4_55 : decode cJ6_numberOfTrailingZeros_0f7a4 55 = .ok (.iinc 1 4, 3) := by decide +kernel
theorem dJ6_numberOfTrailingZeros_0f7a4_58 : decode cJ6_numberOfTrailingZeros_0f7a4 58 = .ok (.iload_n 0, 1) := by decide +kernel
theorem dJ6_numberOfTrailingZeros_0f7a4_59 : decode cJ6_numberOfTrailingZeros_0f7a4 59 = .ok (.iconst 4, 1) := by decide +kernel
theorem dJ6_numberOfTrailingZeros_0f7a4_60 : decode cJ6_numberOfTrailingZeros_0f7a4 60 = .ok (.iushr, 1) := by decide +kernel
theorem dJ6_numberOfTrailingZeros_0f7a4_61 : decode cJ6_numberOfTrailingZeros_0f7a4 61 = .ok (.istore_n 0, 1) := by decide +kernel
theorem dJ6_numberOfTrailingZeros_0f7a4_62 : decode cJ6_numberOfTrailingZeros_0f7a4 62 = .ok (.iload_n 0, 1) := by decide +kernel
theorem dJ6_numberOfTrailingZeros_0f7a4_63 : decode cJ6_numberOfTrailingZeros_0f7a4 63 = .ok (.iconst 4, 1) := by decide +kernel
theorem dJ6_numberOfTrailingZeros_0f7a4_64 : decode cJ6_numberOfTrailingZeros_0f7a4 64 = .ok (.if_icmp .le 10, 3) := by decide +kernel
theorem dJ6_numberOfTrailingZeros_0f7a4_67 : decode cJ6_numberOfTrailingZeros_0f7a4 67 = .ok (.iinc 1 2, 3) := by decide +kernel
theorem dJ6_numberOfTrailingZeros_0f7a4_70 : decode cJ6_numberOfTrailingZeros_0f7a4 70 = .ok (.iload_n 0, 1) := by decide +kernel
theorem dJ6_numberOfTrailingZeros_0f7a4_71 : decode cJ6_numberOfTrailingZeros_0f7a4 71 = .ok (.iconst 2, 1) := by decide +kernel
theorem dJ6_numberOfTrailingZeros_0f7a4_72 : decode cJ6_numberOfTrailingZeros_0f7a4 72 = .ok (.iushr, 1) := by decide +kernel
theorem dJ6_numberOfTrailingZeros_0f7a4_73 : decode cJ6_numberOfTrailingZeros_0f7a4 73 = .ok (.istore_n 0, 1) := by decide +kernel
theorem dJ6_numberOfTrailingZeros_0f7a4_74 : decode cJ6_numberOfTrailingZeros_0f7a4 74 = .ok (.iload_n 1, 1) := by decide +kernel
theorem dJ6_numberOfTrailingZeros_0f7a4_75 : decode cJ6_numberOfTrailingZeros_0f7a4 75 = .ok (.iload_n 0, 1) := by decide +kernel
theorem dJ6_numberOfTrailingZeros_0f7a4_76 : decode cJ6_numberOfTrailingZeros_0f7a4 76 = .ok (.iconst 1, 1) := by decide +kernel
theorem dJ6_numberOfTrailingZeros_0f7a4_77 : decode cJ6_numberOfTrailingZeros_0f7a4 77 = .ok (.iushr, 1) := by decide +kernel
theorem dJ6_numberOfTrailingZeros_0f7a4_78 : decode cJ6_numberOfTrailingZeros_0f7a4 78 = .ok (.iadd, 1) := by decide +kernel
theorem dJ6_numberOfTrailingZeros_0f7a4_79 : decode cJ6_numberOfTrailingZeros_0f7a4 79 = .ok (.ireturn, 1) := by decide +kernel
theorem dJ6_bitCount_0f7a4_0 : decode cJ6_bitCount_0f7a4 0 = .ok (.iload_n 0, 1) := by decide +kernel
theorem dJ6_bitCount_0f7a4_1 : decode cJ6_bitCount_0f7a4 1 = .ok (.iload_n 0, 1) := by decide +kernel
theorem dJ6_bitCount_0f7a4_2 : decode cJ6_bitCount_0f7a4 2 = .ok (.iconst 1, 1) := by decide +kernel
theorem dJ6_bitCount_0f7a4_3 : decode cJ6_bitCount_0f7a4 3 = .ok (.iushr, 1) := by decide +kernel
theorem dJ6_bitCount_0f7a4_4 : decode cJ6_bitCount_0f7a4 4 = .ok (.ldc_w 265, 3) := by decide +kernel
theorem dJ6_bitCount_0f7a4_7 : decode cJ6_bitCount_0f7a4 7 = .ok (.iand, 1) := by decide +kernel
theorem dJ6_bitCount_0f7a4_8 : decode cJ6_bitCount_0f7a4 8 = .ok (.isub, 1) := by decide +kernel
theorem dJ6_bitCount_0f7a4_9 : decode cJ6_bitCount_0f7a4 9 = .ok (.istore_n 0, 1) := by decide +kernel
theorem dJ6_bitCount_0f7a4_10 : decode cJ6_bitCount_0f7a4 10 = .ok (.iload_n 0, 1) := by decide +kernel
theorem dJ6_bitCount_0f7a4_11 : decode cJ6_bitCount_0f7a4 11 = .ok (.ldc_w 266, 3) := by decide +kernel
theorem dJ6_bitCount_0f7a4_14 : decode cJ6_bitCount_0f7a4 14 = .ok (.iand, 1) := by decide +kernel
theorem dJ6_bitCount_0f7a4_15 : decode cJ6_bitCount_0f7a4 15 = .ok (.iload_n 0, 1) := by decide +kernel
theorem dJ6_bitCount_0f7a4_16 : decode cJ6_bitCount_0f7a4 16 = .ok (.iconst 2, 1) := by decide +kernel
theorem dJ6_bitCount_0f7a4_17 : decode cJ6_bitCount_0f7a4 17 = .ok (.iushr, 1) := by decide +kernel
theorem dJ6_bitCount_0f7a4_18 : decode cJ6_bitCount_0f7a4 18 = .ok (.ldc_w 266, 3) := by decide +kernel
theorem dJ6_bitCount_0f7a4_21 : decode cJ6_bitCount_0f7a4 21 = .ok (.iand, 1) := by decide +kernel
theorem dJ6_bitCount_0f7a4_22 : decode cJ6_bitCount_0f7a4 22 = .ok (.iadd, 1) := by decide +kernel
theorem dJ6_bitCount_0f7a4_23 : decode cJ6_bitCount_0f7a4 23 = .ok (.istore_n 0, 1) := by decide +kernel
theorem dJ6_bitCount_0f7a4_24 : decode cJ6_bitCount_0f7a4 24 = .ok (.iload_n 0, 1) := by decide +kernel
theorem dJ6_bitCount_0f7a4_25 : decode cJ6_bitCount_0f7a4 25 = .ok (.iload_n 0, 1) := by decide +kernel
theorem dJ6_bitCount_0f7a4_26 : decode cJ6_bitCount_0f7a4 26 = .ok (.iconst 4, 1) := by decide +kernel
theorem dJ6_bitCount_0f7a4_27 : decode cJ6_bitCount_0f7a4 27 = .ok (.iushr, 1) := by decide +kernel
theorem dJ6_bitCount_0f7a4_28 : decode cJ6_bitCount_0f7a4 28 = .ok (.iadd, 1) := by decide +kernel
theorem dJ6_bitCount_0f7a4_29 : decode cJ6_bitCount_0f7a4 29 = .ok (.ldc_w 267, 3) := by decide +kernel
theorem dJ6_bitCount_0f7a4_32 : decode cJ6_bitCount_0f7a4 32 = .ok (.iand, 1) := by decide +kernel
theorem dJ6_bitCount_0f7a4_33 : decode cJ6_bitCount_0f7a4 33 = .ok (.istore_n 0, 1) := by decide +kernel
theorem dJ6_bitCount_0f7a4_34 : decode cJ6_bitCount_0f7a4 34 = .ok (.iload_n 0, 1) := by decide +kernel
theorem dJ6_bitCount_0f7a4_35 : decode cJ6_bitCount_0f7a4 35 = .ok (.iload_n 0, 1) := by decide +kernel
theorem dJ6_bitCount_0f7a4_36 : decode cJ6_bitCount_0f7a4 36 = .ok (.bipush 8, 2) := by decide +kernel
theorem dJ6_bitCount_0f7a4_38 : decode cJ6_bitCount_0f7a4 38 = .ok (.iushr, 1) := by decide +kernel
theorem dJ6_bitCount_0f7a4_39 : decode cJ6_bitCount_0f7a4 39 = .ok (.iadd, 1) := by decide +kernel
theorem dJ6_bitCount_0f7a4_40 : decode cJ6_bitCount_0f7a4 40 = .ok (.istore_n 0, 1) := by decide +kernel
theorem dJ6_bitCount_0f7a4_41 : decode cJ6_bitCount_0f7a4 41 = .ok (.iload_n 0, 1) := by decide +kernel
theorem dJ6_bitCount_0f7a4_42 : decode cJ6_bitCount_0f7a4 42 = .ok (.iload_n 0, 1) := by decide +kernel
theorem dJ6_bitCount_0f7a4_43 : decode cJ6_bitCount_0f7a4 43 = .ok (.bipush 16, 2) := by decide +kernel
theorem dJ6_bitCount_0f7a4_45 : decode cJ6_bitCount_0f7a4 45 = .ok (.iushr, 1) := by decide +kernel
theorem dJ6_bitCount_0f7a4_46 : decode cJ6_bitCount_0f7a4 46 = .ok (.iadd, 1) := by decide +kernel
theorem dJ6_bitCount_0f7a4_47 : decode cJ6_bitCount_0f7a4 47 = .ok (.istore_n 0, 1) := by decide +kernel
theorem dJ6_bitCount_0f7a4_48 : decode cJ6_bitCount_0f7a4 48 = .ok (.iload_n 0, 1) := by decide +kernel
theorem dJ6_bitCount_0f7a4_49 : decode cJ6_bitCount_0f7a4 49 = .ok (.bipush 63, 2) := by decide +kernel
theorem dJ6_bitCount_0f7a4_51 : decode cJ6_bitCount_0f7a4 51 = .ok (.iand, 1) := by decide +kernel
theorem dJ6_bitCount_0f7a4_52 : decode cJ6_bitCount_0f7a4 52 = .ok (.ireturn, 1) := by decide +kernel
theorem dJ9_max_7cf53_0 : decode cJ9_max_7cf53 0 = .ok (.iload_n 0, 1) := by decide +kernel
theorem dJ9_max_7cf53_1 : decode cJ9_max_7cf53 1 = .ok (.iload_n 1, 1) := by decide +kernel
theorem dJ9_max_7cf53_2 : decode cJ9_max_7cf53 2 = .ok (.if_icmp .lt 7, 3) := by decide +kernel
theorem dJ9_max_7cf53_5 : decode cJ9_max_7cf53 5 = .ok (.iload_n 0, 1) := by decide +kernel
theorem dJ9_max_7cf53_6 : decode cJ9_max_7cf53 6 = .ok (.goto 4, 3) := by decide +kernel
theorem dJ9_max_7cf53_9 : decode cJ9_max_7cf53 9 = .ok (.iload_n 1, 1) := by decide +kernel
theorem dJ9_max_7cf53_10 : decode cJ9_max_7cf53 10 = .ok (.ireturn, 1) := by decide +kernel
theorem dJ9_min_7cf53_0 : decode cJ9_min_7cf53 0 = .ok (.iload_n 0, 1) := by decide +kernel
theorem dJ9_min_7cf53_1 : decode cJ9_min_7cf53 1 = .ok (.iload_n 1, 1) := by decide +kernel
theorem dJ9_min_7cf53_2 : decode cJ9_min_7cf53 2 = .ok (.if_icmp .gt 7, 3) := by decide +kernel
theorem dJ9_min_7cf53_5 : decode cJ9_min_7cf53 5 = .ok (.iload_n 0, 1) := by decide +kernel
theorem dJ9_min_7cf53_6 : decode cJ9_min_7cf53 6 = .ok (.goto 4, 3) := by decide +kernel
theorem dJ9_min_7cf53_9 : decode cJ9_min_7cf53 9 = .ok (.iload_n 1, 1) := by decide +kernel
theorem dJ9_min_7cf53_10 : decode cJ9_min_7cf53 10 = .ok (.ireturn, 1) := by decide +kernel
theorem dJ0_length_8abf5_0 : decode cJ0_length_8abf5 0 = .ok (.aload_n 0, 1) := by decide +kernel
theorem dJ0_length_8abf5_1 : decode cJ0_length_8abf5 1 = .ok (.getfield 9, 3) := by decide +kernel
theorem dJ0_length_8abf5_4 : decode cJ0_length_8abf5 4 = .ok (.arraylength, 1) := by decide +kernel
theorem dJ0_length_8abf5_5 : decode cJ0_length_8abf5 5 = .ok (.aload_n 0, 1) := by decide +kernel
theorem dJ0_length_8abf5_6 : decode cJ0_length_8abf5 6 = .ok (.invokevirtual 335, 3) := by decide +kernel
theorem dJ0_length_8abf5_9 : decode cJ0_length_8abf5 9 = .ok (.ishr, 1) := by decide +kernel
theorem dJ0_length_8abf5_10 : decode cJ0_length_8abf5 10 = .ok (.ireturn, 1) := by decide +kernel
theorem dJ0_charAt_5068e_0 : decode cJ0_charAt_5068e 0 = .ok (.aload_n 0, 1) := by decide +kernel
theorem dJ0_charAt_5068e_1 : decode cJ0_charAt_5068e 1 = .ok (.invokevirtual 492, 3) := by decide +kernel
theorem dJ0_charAt_5068e_4 : decode cJ0_charAt_5068e 4 = .ok (.ifCond .eq 12, 3) := by decide +kernel
theorem dJ0_charAt_5068e_7 : decode cJ0_charAt_5068e 7 = .ok (.aload_n 0, 1) := by decide +kernel
theorem dJ0_charAt_5068e_8 : decode cJ0_charAt_5068e 8 = .ok (.getfield 9, 3) := by decide +kernel
theorem dJ0_charAt_5068e_11 : decode cJ0_charAt_5068e 11 = .ok (.iload_n 1, 1) := by decide +kernel
theorem dJ0_charAt_5068e_12 : decode cJ0_charAt_5068e 12 = .ok (.invokestatic 495, 3) := by decide +kernel
theorem dJ0_charAt_5068e_15 : decode cJ0_charAt_5068e 15 = .ok (.ireturn, 1) := by decide +kernel
theorem dJ0_charAt_5068e_16 : decode cJ0_charAt_5068e 16 = .ok (.aload_n 0, 1) := by decide +kernel
theorem dJ0_charAt_5068e_17 : decode cJ0_charAt_5068e 17 = .ok (.getfield 9, 3) := by decide +kernel
theorem dJ0_charAt_5068e_20 : decode cJ0_charAt_5068e 20 = .ok (.iload_n 1, 1) := by decide +kernel
theorem dJ0_charAt_5068e_21 : decode cJ0_charAt_5068e 21 = .ok (.invokestatic 498, 3) := by decide +kernel
theorem dJ0_charAt_5068e_24 : decode cJ0_charAt_5068e 24 = .ok (.ireturn, 1) := by decide +kernel
theorem dJ0_coder_7d493_0 : decode cJ0_coder_7d493 0 = .ok (.getstatic 38, 3) := by decide +kernel
theorem dJ0_coder_7d493_3 : decode cJ0_coder_7d493 3 = .ok (.ifCond .eq 10, 3) := by decide +kernel
theorem dJ0_coder_7d493_6 : decode cJ0_coder_7d493 6 = .ok (.aload_n 0, 1) := by decide +kernel
theorem dJ0_coder_7d493_7 : decode cJ0_coder_7d493 7 = .ok (.getfield 15, 3) := by decide +kernel
theorem dJ0_coder_7d493_10 : decode cJ0_coder_7d493 10 = .ok (.goto 4, 3) := by decide +kernel
theorem dJ0_coder_7d493_13 : decode cJ0_coder_7d493 13 = .ok (.iconst 1, 1) := by decide +kernel
theorem dJ0_coder_7d493_14 : decode cJ0_coder_7d493 14 = .ok (.ireturn, 1) := by decide +kernel
theorem dJ0_isLatin1_aae02_0 : decode cJ0_isLatin1_aae02 0 = .ok (.getstatic 38, 3) := by decide +kernel
theorem dJ0_isLatin1_aae02_3 : decode cJ0_isLatin1_aae02 3 = .ok (.ifCond .eq 14, 3) := by decide +kernel
theorem dJ0_isLatin1_aae02_6 : decode cJ0_isLatin1_aae02 6 = .ok (.aload_n 0, 1) := by decide +kernel
theorem dJ0_isLatin1_aae02_7 : decode cJ0_isLatin1_aae02 7 = .ok (.getfield 15, 3) := by decide +kernel
theorem dJ0_isLatin1_aae02_10 : decode cJ0_isLatin1_aae02 10 = .ok (.ifCond .ne 7, 3) := by decide +kernel
theorem dJ0_isLatin1_aae02_13 : decode cJ0_isLatin1_aae02 13 = .ok (.iconst 1, 1) := by decide +kernel
theorem dJ0_isLatin1_aae02_14 : decode cJ0_isLatin1_aae02 14 = .ok (.goto 4, 3) := by decide +kernel
theorem dJ0_isLatin1_aae02_17 : decode cJ0_isLatin1_aae02 17 = .ok (.iconst 0, 1) := by decide +kernel
theorem dJ0_isLatin1_aae02_18 : decode cJ0_isLatin1_aae02 18 = .ok (.ireturn, 1) := by decide +kernel
theorem dJ0_checkIndex_df160_0 : decode cJ0_checkIndex_df160 0 = .ok (.iload_n 0, 1) := by decide +kernel
theorem dJ0_checkIndex_df160_1 : decode cJ0_checkIndex_df160 1 = .ok (.iload_n 1, 1) := by decide +kernel
theorem dJ0_checkIndex_df160_2 : decode cJ0_checkIndex_df160 2 = .ok (.getstatic 1053, 3) := by decide +kernel
theorem dJ0_checkIndex_df160_5 : decode cJ0_checkIndex_df160 5 = .ok (.invokestatic 1059, 3) := by decide +kernel
theorem dJ0_checkIndex_df160_8 : decode cJ0_checkIndex_df160 8 = .ok (.pop, 1) := by decide +kernel
theorem dJ0_checkIndex_df160_9 : decode cJ0_checkIndex_df160 9 = .ok (.return_, 1) := by decide +kernel
theorem dJ1_charAt_3b067_0 : decode cJ1_charAt_3b067 0 = .ok (.iload_n 1, 1) := by decide +kernel
theorem dJ1_charAt_3b067_1 : decode cJ1_charAt_3b067 1 = .ok (.aload_n 0, 1) := by decide +kernel
theorem dJ1_charAt_3b067_2 : decode cJ1_charAt_3b067 2 = .ok (.arraylength, 1) := by decide +kernel
theorem dJ1_charAt_3b067_3 : decode cJ1_charAt_3b067 3 = .ok (.invokestatic 9, 3) := by decide +kernel
theorem dJ1_charAt_3b067_6 : decode cJ1_charAt_3b067 6 = .ok (.aload_n 0, 1) := by decide +kernel
theorem dJ1_charAt_3b067_7 : decode cJ1_charAt_3b067 7 = .ok (.iload_n 1, 1) := by decide +kernel
theorem dJ1_charAt_3b067_8 : decode cJ1_charAt_3b067 8 = .ok (.baload, 1) := by decide +kernel
theorem dJ1_charAt_3b067_9 : decode cJ1_charAt_3b067 9 = .ok (.sipush 255, 3) := by decide +kernel
theorem dJ1_charAt_3b067_12 : decode cJ1_charAt_3b067 12 = .ok (.iand, 1) := by decide +kernel
theorem dJ1_charAt_3b067_13 : decode cJ1_charAt_3b067 13 = .ok (.i2c, 1) := by decide +kernel
theorem dJ1_charAt_3b067_14 : decode cJ1_charAt_3b067 14 = .ok (.ireturn, 1) := by decide +kernel
theorem dJ2_getChar_3b067_0 : decode cJ2_getChar_3b067 0 = .ok (.getstatic 44, 3) := by decide +kernel
theorem dJ2_getChar_3b067_3 : decode cJ2_getChar_3b067 3 = .ok (.ifCond .ne 25, 3) := by decide +kernel
theorem dJ2_getChar_3b067_6 : decode cJ2_getChar_3b067 6 = .ok (.iload_n 1, 1) := by decide +kernel
theorem dJ2_getChar_3b067_7 : decode cJ2_getChar_3b067 7 = .ok (.ifCond .lt 11, 3) := by decide +kernel
theorem dJ2_getChar_3b067_10 : decode cJ2_getChar_3b067 10 = .ok (.iload_n 1, 1) := by decide +kernel
theorem dJ2_getChar_3b067_11 : decode cJ2_getChar_3b067 11 = .ok (.aload_n 0, 1) := by decide +kernel
theorem dJ2_getChar_3b067_12 : decode cJ2_getChar_3b067 12 = .ok (.invokestatic 48, 3) := by decide +kernel
theorem dJ2_getChar_3b067_15 : decode cJ2_getChar_3b067 15 = .ok (.if_icmp .lt 13, 3) := by decide +kernel
theorem dJ2_getChar_3b067_18 : decode cJ2_getChar_3b067 18 = .ok (.new 52, 3) := by decide +kernel
theorem dJ2_getChar_3b067_21 : decode cJ2_getChar_3b067 21 = .ok (.dup, 1) := by decide +kernel
theorem dJ2_getChar_3b067_22 : decode cJ2_getChar_3b067 22 = .ok (.ldc 54, 2) := by decide +kernel
theorem dJ2_getChar_3b067_24 : decode cJ2_getChar_3b067 24 = .ok (.invokespecial 56, 3) := by decide +kernel
theorem dJ2_getChar_3b067_27 : decode cJ2_getChar_3b067 27 = .ok (.athrow, 1) := by decide +kernel
theorem dJ2_getChar_3b067_28 : decode cJ2_getChar_3b067 28 = .ok (.iload_n 1, 1) := by decide +kernel
theorem dJ2_getChar_3b067_29 : decode cJ2_getChar_3b067 29 = .ok (.iconst 1, 1) := by decide +kernel
theorem dJ2_getChar_3b067_30 : decode cJ2_getChar_3b067 30 = .ok (.ishl, 1) := by decide +kernel
theorem dJ2_getChar_3b067_31 : decode cJ2_getChar_3b067 31 = .ok (.istore_n 1, 1) := by decide +kernel
theorem dJ2_getChar_3b067_32 : decode cJ2_getChar_3b067 32 = .ok (.aload_n 0, 1) := by decide +kernel
theorem dJ2_getChar_3b067_33 : decode cJ2_getChar_3b067 33 = .ok (.iload_n 1, 1) := by decide +kernel
theorem dJ2_getChar_3b067_34 : decode cJ2_getChar_3b067 34 = .ok (.iinc 1 1, 3) := by decide +kernel
theorem dJ2_getChar_3b067_37 : decode cJ2_getChar_3b067 37 = .ok (.baload, 1) := by decide +kernel
theorem dJ2_getChar_3b067_38 : decode cJ2_getChar_3b067 38 = .ok (.sipush 255, 3) := by decide +kernel
theorem dJ2_getChar_3b067_41 : decode cJ2_getChar_3b067 41 = .ok (.iand, 1) := by decide +kernel
theorem dJ2_getChar_3b067_42 : decode cJ2_getChar_3b067 42 = .ok (.getstatic 59, 3) := by decide +kernel
theorem dJ2_getChar_3b067_45 : decode cJ2_getChar_3b067 45 = .ok (.ishl, 1) := by decide +kernel
theorem dJ2_getChar_3b067_46 : decode cJ2_getChar_3b067 46 = .ok (.aload_n 0, 1) := by decide +kernel
theorem dJ2_getChar_3b067_47 : decode cJ2_getChar_3b067 47 = .ok (.iload_n 1, 1) := by decide +kernel
theorem dJ2_getChar_3b067_48 : decode cJ2_getChar_3b067 48 = .ok (.baload, 1) := by decide +kernel
theorem dJ2_getChar_3b067_49 : decode cJ2_getChar_3b067 49 = .ok (.sipush 255, 3) := by decide +kernel
theorem dJ2_getChar_3b067_52 : decode cJ2_getChar_3b067 52 = .ok (.iand, 1) := by decide +kernel
theorem dJ2_getChar_3b067_53 : decode cJ2_getChar_3b067 53 = .ok (.getstatic 63, 3) := by decide +kernel
theorem dJ2_getChar_3b067_56 : decode cJ2_getChar_3b067 56 = .ok (.ishl, 1) := by decide +kernel
theorem dJ2_getChar_3b067_57 : decode cJ2_getChar_3b067 57 = .ok (.ior, 1) := by decide +kernel
theorem dJ2_getChar_3b067_58 : decode cJ2_getChar_3b067 58 = .ok (.i2c, 1) := by decide +kernel
theorem dJ2_getChar_3b067_59 : decode cJ2_getChar_3b067 59 = .ok (.ireturn, 1) := by decide +kernel
theorem dJ2_length_9d52b_0 : decode cJ2_length_9d52b 0 = .ok (.aload_n 0, 1) := by decide +kernel
theorem dJ2_length_9d52b_1 : decode cJ2_length_9d52b 1 = .ok (.arraylength, 1) := by decide +kernel
theorem dJ2_length_9d52b_2 : decode cJ2_length_9d52b 2 = .ok (.iconst 1, 1) := by decide +kernel
theorem dJ2_length_9d52b_3 : decode cJ2_length_9d52b 3 = .ok (.ishr, 1) := by decide +kernel
theorem dJ2_length_9d52b_4 : decode cJ2_length_9d52b 4 = .ok (.ireturn, 1) := by decide +kernel
theorem dJ2_charAt_3b067_0 : decode cJ2_charAt_3b067 0 = .ok (.iload_n 1, 1) := by decide +kernel
theorem dJ2_charAt_3b067_1 : decode cJ2_charAt_3b067 1 = .ok (.aload_n 0, 1) := by decide +kernel
theorem dJ2_charAt_3b067_2 : decode cJ2_charAt_3b067 2 = .ok (.invokestatic 67, 3) := by decide +kernel
theorem dJ2_charAt_3b067_5 : decode cJ2_charAt_3b067 5 = .ok (.aload_n 0, 1) := by decide +kernel
theorem dJ2_charAt_3b067_6 : decode cJ2_charAt_3b067 6 = .ok (.iload_n 1, 1) := by decide +kernel
theorem dJ2_charAt_3b067_7 : decode cJ2_charAt_3b067 7 = .ok (.invokestatic 71, 3) := by decide +kernel
theorem dJ2_charAt_3b067_10 : decode cJ2_charAt_3b067 10 = .ok (.ireturn, 1) := by decide +kernel
theorem dJ2_checkIndex_2214a_0 : decode cJ2_checkIndex_2214a 0 = .ok (.iload_n 0, 1) := by decide +kernel
theorem dJ2_checkIndex_2214a_1 : decode cJ2_checkIndex_2214a 1 = .ok (.aload_n 1, 1) := by decide +kernel
theorem dJ2_checkIndex_2214a_2 : decode cJ2_checkIndex_2214a 2 = .ok (.invokestatic 48, 3) := by decide +kernel
theorem dJ2_checkIndex_2214a_5 : decode cJ2_checkIndex_2214a 5 = .ok (.invokestatic 414, 3) := by decide +kernel
theorem dJ2_checkIndex_2214a_8 : decode cJ2_checkIndex_2214a 8 = .ok (.return_, 1) := by decide +kernel
theorem dJ3_checkIndex_8e157_0 : decode cJ3_checkIndex_8e157 0 = .ok (.iload_n 0, 1) := by decide +kernel
theorem dJ3_checkIndex_8e157_1 : decode cJ3_checkIndex_8e157 1 = .ok (.ifCond .lt 8, 3) := by decide +kernel
theorem dJ3_checkIndex_8e157_4 : decode cJ3_checkIndex_8e157 4 = .ok (.iload_n 0, 1) := by decide +kernel
theorem dJ3_checkIndex_8e157_5 : decode cJ3_checkIndex_8e157 5 = .ok (.iload_n 1, 1) := by decide +kernel
theorem dJ3_checkIndex_8e157_6 : decode cJ3_checkIndex_8e157 6 = .ok (.if_icmp .lt 10, 3) := by decide +kernel
theorem dJ3_checkIndex_8e157_9 : decode cJ3_checkIndex_8e157 9 = .ok (.aload_n 2, 1) := by decide +kernel
theorem dJ3_checkIndex_8e157_10 : decode cJ3_checkIndex_8e157 10 = .ok (.iload_n 0, 1) := by decide +kernel
theorem dJ3_checkIndex_8e157_11 : decode cJ3_checkIndex_8e157 11 = .ok (.iload_n 1, 1) := by decide +kernel
theorem dJ3_checkIndex_8e157_12 : decode cJ3_checkIndex_8e157 12 = .ok (.invokestatic 95, 3) := by decide +kernel
theorem dJ3_checkIndex_8e157_15 : decode cJ3_checkIndex_8e157 15 = .ok (.athrow, 1) := by decide +kernel
theorem dJ3_checkIndex_8e157_16 : decode cJ3_checkIndex_8e157 16 = .ok (.iload_n 0, 1) := by decide +kernel
theorem dJ3_checkIndex_8e157_17 : decode cJ3_checkIndex_8e157 17 = .ok (.ireturn, 1) := by decide +kernel
