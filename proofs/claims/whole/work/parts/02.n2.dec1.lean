theorem dX3_back_0 : decode cX3_back 0 = .ok (.aload_n 0, 1) := by decide +kernel
theorem dX3_back_1 : decode cX3_back 1 = .ok (.getfield 169, 3) := by decide +kernel
theorem dX3_back_4 : decode cX3_back 4 = .ok (.ifCond .ne 10, 3) := by decide +kernel
theorem dX3_back_7 : decode cX3_back 7 = .ok (.aload_n 0, 1) := by decide +kernel
theorem dX3_back_8 : decode cX3_back 8 = .ok (.bipush (-5), 2) := by decide +kernel
theorem dX3_back_10 : decode cX3_back 10 = .ok (.invokevirtual 51, 3) := by decide +kernel
theorem dX3_back_13 : decode cX3_back 13 = .ok (.ireturn, 1) := by decide +kernel
theorem dX3_back_14 : decode cX3_back 14 = .ok (.aload_n 0, 1) := by decide +kernel
theorem dX3_back_15 : decode cX3_back 15 = .ok (.getfield 10, 3) := by decide +kernel
theorem dX3_back_18 : decode cX3_back 18 = .ok (.aload_n 0, 1) := by decide +kernel
theorem dX3_back_19 : decode cX3_back 19 = .ok (.getfield 19, 3) := by decide +kernel
theorem dX3_back_22 : decode cX3_back 22 = .ok (.invokevirtual 165, 3) := by decide +kernel
theorem dX3_back_25 : decode cX3_back 25 = .ok (.aload_n 0, 1) := by decide +kernel
theorem dX3_back_26 : decode cX3_back 26 = .ok (.invokevirtual 159, 3) := by decide +kernel
theorem dX3_back_29 : decode cX3_back 29 = .ok (.iconst 1, 1) := by decide +kernel
theorem dX3_back_30 : decode cX3_back 30 = .ok (.ireturn, 1) := by decide +kernel
theorem dX3_feed_0 : decode cX3_feed 0 = .ok (.iload_n 1, 1) := by decide +kernel
theorem dX3_feed_1 : decode cX3_feed 1 = .ok (.iconst 0, 1) := by decide +kernel
theorem dX3_feed_2 : decode cX3_feed 2 = .ok (.sipush 255, 3) := by decide +kernel
theorem dX3_feed_5 : decode cX3_feed 5 = .ok (.invokestatic 47, 3) := by decide +kernel
theorem dX3_feed_8 : decode cX3_feed 8 = .ok (.ifCond .ne 10, 3) := by decide +kernel
theorem dX3_feed_11 : decode cX3_feed 11 = .ok (.aload_n 0, 1) := by decide +kernel
theorem dX3_feed_12 : decode cX3_feed 12 = .ok (.bipush (-2), 2) := by decide +kernel
theorem dX3_feed_14 : decode cX3_feed 14 = .ok (.invokevirtual 51, 3) := by decide +kernel
theorem dX3_feed_17 : decode cX3_feed 17 = .ok (.ireturn, 1) := by decide +kernel
theorem dX3_feed_18 : decode cX3_feed 18 = .ok (.aload_n 0, 1) := by decide +kernel
theorem dX3_feed_19 : decode cX3_feed 19 = .ok (.getfield 25, 3) := by decide +kernel
theorem dX3_feed_22 : decode cX3_feed 22 = .ok (.getfield 173, 3) := by decide +kernel
theorem dX3_feed_25 : decode cX3_feed 25 = .ok (.sipush 250, 3) := by decide +kernel
theorem dX3_feed_28 : decode cX3_feed 28 = .ok (.if_icmp .lt 10, 3) := by decide +kernel
theorem dX3_feed_31 : decode cX3_feed 31 = .ok (.aload_n 0, 1) := by decide +kernel
theorem dX3_feed_32 : decode cX3_feed 32 = .ok (.bipush (-6), 2) := by decide +kernel
theorem dX3_feed_34 : decode cX3_feed 34 = .ok (.invokevirtual 51, 3) := by decide +kernel
theorem dX3_feed_37 : decode cX3_feed 37 = .ok (.ireturn, 1) := by decide +kernel
theorem dX3_feed_38 : decode cX3_feed 38 = .ok (.aload_n 0, 1) := by decide +kernel
theorem dX3_feed_39 : decode cX3_feed 39 = .ok (.getfield 25, 3) := by decide +kernel
theorem dX3_feed_42 : decode cX3_feed 42 = .ok (.iload_n 1, 1) := by decide +kernel
theorem dX3_feed_43 : decode cX3_feed 43 = .ok (.invokevirtual 176, 3) := by decide +kernel
theorem dX3_feed_46 : decode cX3_feed 46 = .ok (.aload_n 0, 1) := by decide +kernel
theorem dX3_feed_47 : decode cX3_feed 47 = .ok (.getfield 25, 3) := by decide +kernel
theorem dX3_feed_50 : decode cX3_feed 50 = .ok (.getfield 173, 3) := by decide +kernel
theorem dX3_feed_53 : decode cX3_feed 53 = .ok (.ireturn, 1) := by decide +kernel
theorem dX3_wipe_0 : decode cX3_wipe 0 = .ok (.aload_n 0, 1) := by decide +kernel
theorem dX3_wipe_1 : decode cX3_wipe 1 = .ok (.getfield 25, 3) := by decide +kernel
theorem dX3_wipe_4 : decode cX3_wipe 4 = .ok (.getfield 173, 3) := by decide +kernel
theorem dX3_wipe_7 : decode cX3_wipe 7 = .ok (.istore_n 1, 1) := by decide +kernel
theorem dX3_wipe_8 : decode cX3_wipe 8 = .ok (.aload_n 0, 1) := by decide +kernel
theorem dX3_wipe_9 : decode cX3_wipe 9 = .ok (.getfield 25, 3) := by decide +kernel
theorem dX3_wipe_12 : decode cX3_wipe 12 = .ok (.iconst 0, 1) := by decide +kernel
theorem dX3_wipe_13 : decode cX3_wipe 13 = .ok (.putfield 173, 3) := by decide +kernel
theorem dX3_wipe_16 : decode cX3_wipe 16 = .ok (.iload_n 1, 1) := by decide +kernel
theorem dX3_wipe_17 : decode cX3_wipe 17 = .ok (.ireturn, 1) := by decide +kernel
theorem dX3_school_0 : decode cX3_school 0 = .ok (.aload_n 0, 1) := by decide +kernel
theorem dX3_school_1 : decode cX3_school 1 = .ok (.getfield 16, 3) := by decide +kernel
theorem dX3_school_4 : decode cX3_school 4 = .ok (.aload_n 0, 1) := by decide +kernel
theorem dX3_school_5 : decode cX3_school 5 = .ok (.getfield 10, 3) := by decide +kernel
theorem dX3_school_8 : decode cX3_school 8 = .ok (.invokevirtual 165, 3) := by decide +kernel
theorem dX3_school_11 : decode cX3_school 11 = .ok (.aload_n 0, 1) := by decide +kernel
theorem dX3_school_12 : decode cX3_school 12 = .ok (.getfield 25, 3) := by decide +kernel
theorem dX3_school_15 : decode cX3_school 15 = .ok (.aload_n 0, 1) := by decide +kernel
theorem dX3_school_16 : decode cX3_school 16 = .ok (.getfield 16, 3) := by decide +kernel
theorem dX3_school_19 : decode cX3_school 19 = .ok (.invokevirtual 179, 3) := by decide +kernel
theorem dX3_school_22 : decode cX3_school 22 = .ok (.istore_n 1, 1) := by decide +kernel
theorem dX3_school_23 : decode cX3_school 23 = .ok (.aload_n 0, 1) := by decide +kernel
theorem dX3_school_24 : decode cX3_school 24 = .ok (.getfield 25, 3) := by decide +kernel
theorem dX3_school_27 : decode cX3_school 27 = .ok (.iconst 0, 1) := by decide +kernel
theorem dX3_school_28 : decode cX3_school 28 = .ok (.putfield 173, 3) := by decide +kernel
theorem dX3_school_31 : decode cX3_school 31 = .ok (.iload_n 1, 1) := by decide +kernel
theorem dX3_school_32 : decode cX3_school 32 = .ok (.iconst (-1), 1) := by decide +kernel
theorem dX3_school_33 : decode cX3_school 33 = .ok (.if_icmp .ne 21, 3) := by decide +kernel
theorem dX3_school_36 : decode cX3_school 36 = .ok (.aload_n 0, 1) := by decide +kernel
theorem dX3_school_37 : decode cX3_school 37 = .ok (.bipush (-2), 2) := by decide +kernel
theorem dX3_school_39 : decode cX3_school 39 = .ok (.invokevirtual 51, 3) := by decide +kernel
theorem dX3_school_42 : decode cX3_school 42 = .ok (.pop, 1) := by decide +kernel
theorem dX3_school_43 : decode cX3_school 43 = .ok (.bipush (-20), 2) := by decide +kernel
theorem dX3_school_45 : decode cX3_school 45 = .ok (.aload_n 0, 1) := by decide +kernel
theorem dX3_school_46 : decode cX3_school 46 = .ok (.getfield 25, 3) := by decide +kernel
theorem dX3_school_49 : decode cX3_school 49 = .ok (.getfield 183, 3) := by decide +kernel
theorem dX3_school_52 : decode cX3_school 52 = .ok (.isub, 1) := by decide +kernel
theorem dX3_school_53 : decode cX3_school 53 = .ok (.ireturn, 1) := by decide +kernel
theorem dX3_school_54 : decode cX3_school 54 = .ok (.aload_n 0, 1) := by decide +kernel
theorem dX3_school_55 : decode cX3_school 55 = .ok (.getfield 10, 3) := by decide +kernel
theorem dX3_school_58 : decode cX3_school 58 = .ok (.aload_n 0, 1) := by decide +kernel
theorem dX3_school_59 : decode cX3_school 59 = .ok (.getfield 16, 3) := by decide +kernel
theorem dX3_school_62 : decode cX3_school 62 = .ok (.invokevirtual 165, 3) := by decide +kernel
theorem dX3_school_65 : decode cX3_school 65 = .ok (.iload_n 1, 1) := by decide +kernel
theorem dX3_school_66 : decode cX3_school 66 = .ok (.ireturn, 1) := by decide +kernel
theorem dX3_personOf_0 : decode cX3_personOf 0 = .ok (.aload_n 0, 1) := by decide +kernel
theorem dX3_personOf_1 : decode cX3_personOf 1 = .ok (.getfield 10, 3) := by decide +kernel
theorem dX3_personOf_4 : decode cX3_personOf 4 = .ok (.iload_n 1, 1) := by decide +kernel
theorem dX3_personOf_5 : decode cX3_personOf 5 = .ok (.invokevirtual 94, 3) := by decide +kernel
theorem dX3_personOf_8 : decode cX3_personOf 8 = .ok (.ifCond .ne 10, 3) := by decide +kernel
theorem dX3_personOf_11 : decode cX3_personOf 11 = .ok (.aload_n 0, 1) := by decide +kernel
theorem dX3_personOf_12 : decode cX3_personOf 12 = .ok (.bipush (-2), 2) := by decide +kernel
theorem dX3_personOf_14 : decode cX3_personOf 14 = .ok (.invokevirtual 51, 3) := by decide +kernel
theorem dX3_personOf_17 : decode cX3_personOf 17 = .ok (.ireturn, 1) := by decide +kernel
theorem dX3_personOf_18 : decode cX3_personOf 18 = .ok (.iload_n 2, 1) := by decide +kernel
theorem dX3_personOf_19 : decode cX3_personOf 19 = .ok (.tableswitch 67 0 3 #[29, 39, 49, 58], 29) := by decide +kernel
theorem dX3_personOf_48 : decode cX3_personOf 48 = .ok (.aload_n 0, 1) := by decide +kernel
theorem dX3_personOf_49 : decode cX3_personOf 49 = .ok (.getfield 10, 3) := by decide +kernel
theorem dX3_personOf_52 : decode cX3_personOf 52 = .ok (.getfield 107, 3) := by decide +kernel
theorem dX3_personOf_55 : decode cX3_personOf 55 = .ok (.iload_n 1, 1) := by decide +kernel
theorem dX3_personOf_56 : decode cX3_personOf 56 = .ok (.iaload, 1) := by decide +kernel
theorem dX3_personOf_57 : decode cX3_personOf 57 = .ok (.ireturn, 1) := by decide +kernel
theorem dX3_personOf_58 : decode cX3_personOf 58 = .ok (.aload_n 0, 1) := by decide +kernel
theorem dX3_personOf_59 : decode cX3_personOf 59 = .ok (.getfield 10, 3) := by decide +kernel
theorem dX3_personOf_62 : decode cX3_personOf 62 = .ok (.getfield 153, 3) := by decide +kernel
theorem dX3_personOf_65 : decode cX3_personOf 65 = .ok (.iload_n 1, 1) := by decide +kernel
theorem dX3_personOf_66 : decode cX3_personOf 66 = .ok (.iaload, 1) := by decide +kernel
theorem dX3_personOf_67 : decode cX3_personOf 67 = .ok (.ireturn, 1) := by decide +kernel
theorem dX3_personOf_68 : decode cX3_personOf 68 = .ok (.aload_n 0, 1) := by decide +kernel
theorem dX3_personOf_69 : decode cX3_personOf 69 = .ok (.getfield 10, 3) := by decide +kernel
theorem dX3_personOf_72 : decode cX3_personOf 72 = .ok (.iload_n 1, 1) := by decide +kernel
theorem dX3_personOf_73 : decode cX3_personOf 73 = .ok (.invokevirtual 186, 3) := by decide +kernel
theorem dX3_personOf_76 : decode cX3_personOf 76 = .ok (.ireturn, 1) := by decide +kernel
theorem dX3_personOf_77 : decode cX3_personOf 77 = .ok (.aload_n 0, 1) := by decide +kernel
theorem dX3_personOf_78 : decode cX3_personOf 78 = .ok (.getfield 10, 3) := by decide +kernel
theorem dX3_personOf_81 : decode cX3_personOf 81 = .ok (.iload_n 1, 1) := by decide +kernel
theorem dX3_personOf_82 : decode cX3_personOf 82 = .ok (.invokevirtual 189, 3) := by decide +kernel
theorem dX3_personOf_85 : decode cX3_personOf 85 = .ok (.ireturn, 1) := by decide +kernel
theorem dX3_personOf_86 : decode cX3_personOf 86 = .ok (.aload_n 0, 1) := by decide +kernel
theorem dX3_personOf_87 : decode cX3_personOf 87 = .ok (.bipush (-2), 2) := by decide +kernel
theorem dX3_personOf_89 : decode cX3_personOf 89 = .ok (.invokevirtual 51, 3) := by decide +kernel
theorem dX3_personOf_92 : decode cX3_personOf 92 = .ok (.ireturn, 1) := by decide +kernel
theorem dX3_morningOf_0 : decode cX3_morningOf 0 = .ok (.aload_n 0, 1) := by decide +kernel
theorem dX3_morningOf_1 : decode cX3_morningOf 1 = .ok (.getfield 10, 3) := by decide +kernel
theorem dX3_morningOf_4 : decode cX3_morningOf 4 = .ok (.iload_n 1, 1) := by decide +kernel
theorem dX3_morningOf_5 : decode cX3_morningOf 5 = .ok (.invokevirtual 129, 3) := by decide +kernel
theorem dX3_morningOf_8 : decode cX3_morningOf 8 = .ok (.ifCond .ne 10, 3) := by decide +kernel
theorem dX3_morningOf_11 : decode cX3_morningOf 11 = .ok (.aload_n 0, 1) := by decide +kernel
theorem dX3_morningOf_12 : decode cX3_morningOf 12 = .ok (.bipush (-2), 2) := by decide +kernel
theorem dX3_morningOf_14 : decode cX3_morningOf 14 = .ok (.invokevirtual 51, 3) := by decide +kernel
theorem dX3_morningOf_17 : decode cX3_morningOf 17 = .ok (.ireturn, 1) := by decide +kernel
theorem dX3_morningOf_18 : decode cX3_morningOf 18 = .ok (.iload_n 2, 1) := by decide +kernel
theorem dX3_morningOf_19 : decode cX3_morningOf 19 = .ok (.tableswitch 81 0 3 #[29, 46, 56, 65], 29) := by decide +kernel
theorem dX3_morningOf_48 : decode cX3_morningOf 48 = .ok (.aload_n 0, 1) := by decide +kernel
theorem dX3_morningOf_49 : decode cX3_morningOf 49 = .ok (.getfield 10, 3) := by decide +kernel
theorem dX3_morningOf_52 : decode cX3_morningOf 52 = .ok (.iload_n 1, 1) := by decide +kernel
theorem dX3_morningOf_53 : decode cX3_morningOf 53 = .ok (.invokevirtual 132, 3) := by decide +kernel
theorem dX3_morningOf_56 : decode cX3_morningOf 56 = .ok (.ifCond .eq 7, 3) := by decide +kernel
theorem dX3_morningOf_59 : decode cX3_morningOf 59 = .ok (.iconst 1, 1) := by decide +kernel
theorem dX3_morningOf_60 : decode cX3_morningOf 60 = .ok (.goto 4, 3) := by decide +kernel
theorem dX3_morningOf_63 : decode cX3_morningOf 63 = .ok (.iconst 0, 1) := by decide +kernel
theorem dX3_morningOf_64 : decode cX3_morningOf 64 = .ok (.ireturn, 1) := by decide +kernel
theorem dX3_morningOf_65 : decode cX3_morningOf 65 = .ok (.aload_n 0, 1) := by decide +kernel
theorem dX3_morningOf_66 : decode cX3_morningOf 66 = .ok (.getfield 10, 3) := by decide +kernel
theorem dX3_morningOf_69 : decode cX3_morningOf 69 = .ok (.getfield 138, 3) := by decide +kernel
theorem dX3_morningOf_72 : decode cX3_morningOf 72 = .ok (.iload_n 1, 1) := by decide +kernel
theorem dX3_morningOf_73 : decode cX3_morningOf 73 = .ok (.iaload, 1) := by decide +kernel
theorem dX3_morningOf_74 : decode cX3_morningOf 74 = .ok (.ireturn, 1) := by decide +kernel
theorem dX3_morningOf_75 : decode cX3_morningOf 75 = .ok (.aload_n 0, 1) := by decide +kernel
theorem dX3_morningOf_76 : decode cX3_morningOf 76 = .ok (.getfield 10, 3) := by decide +kernel
theorem dX3_morningOf_79 : decode cX3_morningOf 79 = .ok (.iload_n 1, 1) := by decide +kernel
theorem dX3_morningOf_80 : decode cX3_morningOf 80 = .ok (.invokevirtual 192, 3) := by decide +kernel
theorem dX3_morningOf_83 : decode cX3_morningOf 83 = .ok (.ireturn, 1) := by decide +kernel
theorem dX3_morningOf_84 : decode cX3_morningOf 84 = .ok (.aload_n 0, 1) := by decide +kernel
theorem dX3_morningOf_85 : decode cX3_morningOf 85 = .ok (.getfield 10, 3) := by decide +kernel
theorem dX3_morningOf_88 : decode cX3_morningOf 88 = .ok (.aload_n 0, 1) := by decide +kernel
theorem dX3_morningOf_89 : decode cX3_morningOf 89 = .ok (.getfield 10, 3) := by decide +kernel
theorem dX3_morningOf_92 : decode cX3_morningOf 92 = .ok (.iload_n 1, 1) := by decide +kernel
theorem dX3_morningOf_93 : decode cX3_morningOf 93 = .ok (.invokevirtual 192, 3) := by decide +kernel
theorem dX3_morningOf_96 : decode cX3_morningOf 96 = .ok (.invokevirtual 195, 3) := by decide +kernel
theorem dX3_morningOf_99 : decode cX3_morningOf 99 = .ok (.ireturn, 1) := by decide +kernel
theorem dX3_morningOf_100 : decode cX3_morningOf 100 = .ok (.aload_n 0, 1) := by decide +kernel
theorem dX3_morningOf_101 : decode cX3_morningOf 101 = .ok (.bipush (-2), 2) := by decide +kernel
theorem dX3_morningOf_103 : decode cX3_morningOf 103 = .ok (.invokevirtual 51, 3) := by decide +kernel
theorem dX3_morningOf_106 : decode cX3_morningOf 106 = .ok (.ireturn, 1) := by decide +kernel
theorem dX3_can_0 : decode cX3_can 0 = .ok (.aload_n 0, 1) := by decide +kernel
theorem dX3_can_1 : decode cX3_can 1 = .ok (.getfield 10, 3) := by decide +kernel
theorem dX3_can_4 : decode cX3_can 4 = .ok (.iload_n 1, 1) := by decide +kernel
theorem dX3_can_5 : decode cX3_can 5 = .ok (.invokevirtual 94, 3) := by decide +kernel
theorem dX3_can_8 : decode cX3_can 8 = .ok (.ifCond .eq 14, 3) := by decide +kernel
theorem dX3_can_11 : decode cX3_can 11 = .ok (.aload_n 0, 1) := by decide +kernel
theorem dX3_can_12 : decode cX3_can 12 = .ok (.getfield 10, 3) := by decide +kernel
theorem dX3_can_15 : decode cX3_can 15 = .ok (.iload_n 2, 1) := by decide +kernel
theorem dX3_can_16 : decode cX3_can 16 = .ok (.invokevirtual 129, 3) := by decide +kernel
theorem dX3_can_19 : decode cX3_can 19 = .ok (.ifCond .ne 10, 3) := by decide +kernel
theorem dX3_can_22 : decode cX3_can 22 = .ok (.aload_n 0, 1) := by decide +kernel
theorem dX3_can_23 : decode cX3_can 23 = .ok (.bipush (-2), 2) := by decide +kernel
theorem dX3_can_25 : decode cX3_can 25 = .ok (.invokevirtual 51, 3) := by decide +kernel
theorem dX3_can_28 : decode cX3_can 28 = .ok (.ireturn, 1) := by decide +kernel
theorem dX3_can_29 : decode cX3_can 29 = .ok (.aload_n 0, 1) := by decide +kernel
theorem dX3_can_30 : decode cX3_can 30 = .ok (.getfield 10, 3) := by decide +kernel
theorem dX3_can_33 : decode cX3_can 33 = .ok (.iload_n 1, 1) := by decide +kernel
theorem dX3_can_34 : decode cX3_can 34 = .ok (.iload_n 2, 1) := by decide +kernel
theorem dX3_can_35 : decode cX3_can 35 = .ok (.invokevirtual 198, 3) := by decide +kernel
theorem dX3_can_38 : decode cX3_can 38 = .ok (.ireturn, 1) := by decide +kernel
theorem dX3_expects_0 : decode cX3_expects 0 = .ok (.aload_n 0, 1) := by decide +kernel
theorem dX3_expects_1 : decode cX3_expects 1 = .ok (.getfield 10, 3) := by decide +kernel
theorem dX3_expects_4 : decode cX3_expects 4 = .ok (.iload_n 1, 1) := by decide +kernel
theorem dX3_expects_5 : decode cX3_expects 5 = .ok (.invokevirtual 94, 3) := by decide +kernel
theorem dX3_expects_8 : decode cX3_expects 8 = .ok (.ifCond .eq 14, 3) := by decide +kernel
theorem dX3_expects_11 : decode cX3_expects 11 = .ok (.aload_n 0, 1) := by decide +kernel
theorem dX3_expects_12 : decode cX3_expects 12 = .ok (.getfield 10, 3) := by decide +kernel
theorem dX3_expects_15 : decode cX3_expects 15 = .ok (.iload_n 2, 1) := by decide +kernel
theorem dX3_expects_16 : decode cX3_expects 16 = .ok (.invokevirtual 129, 3) := by decide +kernel
theorem dX3_expects_19 : decode cX3_expects 19 = .ok (.ifCond .ne 10, 3) := by decide +kernel
theorem dX3_expects_22 : decode cX3_expects 22 = .ok (.aload_n 0, 1) := by decide +kernel
theorem dX3_expects_23 : decode cX3_expects 23 = .ok (.bipush (-2), 2) := by decide +kernel
theorem dX3_expects_25 : decode cX3_expects 25 = .ok (.invokevirtual 51, 3) := by decide +kernel
theorem dX3_expects_28 : decode cX3_expects 28 = .ok (.ireturn, 1) := by decide +kernel
theorem dX3_expects_29 : decode cX3_expects 29 = .ok (.aload_n 0, 1) := by decide +kernel
theorem dX3_expects_30 : decode cX3_expects 30 = .ok (.getfield 10, 3) := by decide +kernel
theorem dX3_expects_33 : decode cX3_expects 33 = .ok (.iload_n 1, 1) := by decide +kernel
theorem dX3_expects_34 : decode cX3_expects 34 = .ok (.invokevirtual 189, 3) := by decide +kernel
theorem dX3_expects_37 : decode cX3_expects 37 = .ok (.iload_n 2, 1) := by decide +kernel
theorem dX3_expects_38 : decode cX3_expects 38 = .ok (.invokestatic 201, 3) := by decide +kernel
theorem dX3_expects_41 : decode cX3_expects 41 = .ok (.ifCond .eq 7, 3) := by decide +kernel
theorem dX3_expects_44 : decode cX3_expects 44 = .ok (.iconst 1, 1) := by decide +kernel
theorem dX3_expects_45 : decode cX3_expects 45 = .ok (.goto 4, 3) := by decide +kernel
theorem dX3_expects_48 : decode cX3_expects 48 = .ok (.iconst 0, 1) := by decide +kernel
theorem dX3_expects_49 : decode cX3_expects 49 = .ok (.ireturn, 1) := by decide +kernel
theorem dX3_who_0 : decode cX3_who 0 = .ok (.aload_n 0, 1) := by decide +kernel
theorem dX3_who_1 : decode cX3_who 1 = .ok (.getfield 10, 3) := by decide +kernel
theorem dX3_who_4 : decode cX3_who 4 = .ok (.iload_n 1, 1) := by decide +kernel
theorem dX3_who_5 : decode cX3_who 5 = .ok (.invokevirtual 129, 3) := by decide +kernel
theorem dX3_who_8 : decode cX3_who 8 = .ok (.ifCond .eq 14, 3) := by decide +kernel
theorem dX3_who_11 : decode cX3_who 11 = .ok (.aload_n 0, 1) := by decide +kernel
theorem dX3_who_12 : decode cX3_who 12 = .ok (.getfield 10, 3) := by decide +kernel
theorem dX3_who_15 : decode cX3_who 15 = .ok (.iload_n 1, 1) := by decide +kernel
theorem dX3_who_16 : decode cX3_who 16 = .ok (.invokevirtual 204, 3) := by decide +kernel
theorem dX3_who_19 : decode cX3_who 19 = .ok (.goto 9, 3) := by decide +kernel
theorem dX3_who_22 : decode cX3_who 22 = .ok (.aload_n 0, 1) := by decide +kernel
theorem dX3_who_23 : decode cX3_who 23 = .ok (.bipush (-2), 2) := by decide +kernel
theorem dX3_who_25 : decode cX3_who 25 = .ok (.invokevirtual 51, 3) := by decide +kernel
theorem dX3_who_28 : decode cX3_who 28 = .ok (.ireturn, 1) := by decide +kernel
theorem dX3_first_0 : decode cX3_first 0 = .ok (.aload_n 0, 1) := by decide +kernel
theorem dX3_first_1 : decode cX3_first 1 = .ok (.getfield 10, 3) := by decide +kernel
theorem dX3_first_4 : decode cX3_first 4 = .ok (.iload_n 1, 1) := by decide +kernel
theorem dX3_first_5 : decode cX3_first 5 = .ok (.invokevirtual 94, 3) := by decide +kernel
theorem dX3_first_8 : decode cX3_first 8 = .ok (.ifCond .eq 17, 3) := by decide +kernel
theorem dX3_first_11 : decode cX3_first 11 = .ok (.aload_n 0, 1) := by decide +kernel
theorem dX3_first_12 : decode cX3_first 12 = .ok (.getfield 10, 3) := by decide +kernel
theorem dX3_first_15 : decode cX3_first 15 = .ok (.iload_n 1, 1) := by decide +kernel
theorem dX3_first_16 : decode cX3_first 16 = .ok (.invokevirtual 189, 3) := by decide +kernel
theorem dX3_first_19 : decode cX3_first 19 = .ok (.invokestatic 207, 3) := by decide +kernel
theorem dX3_first_22 : decode cX3_first 22 = .ok (.goto 9, 3) := by decide +kernel
theorem dX3_first_25 : decode cX3_first 25 = .ok (.aload_n 0, 1) := by decide +kernel
theorem dX3_first_26 : decode cX3_first 26 = .ok (.bipush (-2), 2) := by decide +kernel
theorem dX3_first_28 : decode cX3_first 28 = .ok (.invokevirtual 51, 3) := by decide +kernel
theorem dX3_first_31 : decode cX3_first 31 = .ok (.ireturn, 1) := by decide +kernel
theorem dX3_lasts_0 : decode cX3_lasts 0 = .ok (.aload_n 0, 1) := by decide +kernel
theorem dX3_lasts_1 : decode cX3_lasts 1 = .ok (.getfield 10, 3) := by decide +kernel
theorem dX3_lasts_4 : decode cX3_lasts 4 = .ok (.iload_n 1, 1) := by decide +kernel
theorem dX3_lasts_5 : decode cX3_lasts 5 = .ok (.invokevirtual 94, 3) := by decide +kernel
theorem dX3_lasts_8 : decode cX3_lasts 8 = .ok (.ifCond .eq 18, 3) := by decide +kernel
theorem dX3_lasts_11 : decode cX3_lasts 11 = .ok (.aload_n 0, 1) := by decide +kernel
theorem dX3_lasts_12 : decode cX3_lasts 12 = .ok (.getfield 10, 3) := by decide +kernel
theorem dX3_lasts_15 : decode cX3_lasts 15 = .ok (.iload_n 1, 1) := by decide +kernel
theorem dX3_lasts_16 : decode cX3_lasts 16 = .ok (.iconst 0, 1) := by decide +kernel
theorem dX3_lasts_17 : decode cX3_lasts 17 = .ok (.invokevirtual 198, 3) := by decide +kernel
theorem dX3_lasts_20 : decode cX3_lasts 20 = .ok (.invokestatic 210, 3) := by decide +kernel
theorem dX3_lasts_23 : decode cX3_lasts 23 = .ok (.goto 9, 3) := by decide +kernel
theorem dX3_lasts_26 : decode cX3_lasts 26 = .ok (.aload_n 0, 1) := by decide +kernel
theorem dX3_lasts_27 : decode cX3_lasts 27 = .ok (.bipush (-2), 2) := by decide +kernel
theorem dX3_lasts_29 : decode cX3_lasts 29 = .ok (.invokevirtual 51, 3) := by decide +kernel
theorem dX3_lasts_32 : decode cX3_lasts 32 = .ok (.ireturn, 1) := by decide +kernel
theorem dX3_ends_0 : decode cX3_ends 0 = .ok (.aload_n 0, 1) := by decide +kernel
theorem dX3_ends_1 : decode cX3_ends 1 = .ok (.getfield 10, 3) := by decide +kernel
theorem dX3_ends_4 : decode cX3_ends 4 = .ok (.getfield 135, 3) := by decide +kernel
theorem dX3_ends_7 : decode cX3_ends 7 = .ok (.invokestatic 210, 3) := by decide +kernel
theorem dX3_ends_10 : decode cX3_ends 10 = .ok (.ireturn, 1) := by decide +kernel
theorem dX3_agree_0 : decode cX3_agree 0 = .ok (.aload_n 0, 1) := by decide +kernel
theorem dX3_agree_1 : decode cX3_agree 1 = .ok (.getfield 10, 3) := by decide +kernel
theorem dX3_agree_4 : decode cX3_agree 4 = .ok (.iload_n 1, 1) := by decide +kernel
theorem dX3_agree_5 : decode cX3_agree 5 = .ok (.invokevirtual 129, 3) := by decide +kernel
theorem dX3_agree_8 : decode cX3_agree 8 = .ok (.ifCond .ne 10, 3) := by decide +kernel
theorem dX3_agree_11 : decode cX3_agree 11 = .ok (.aload_n 0, 1) := by decide +kernel
theorem dX3_agree_12 : decode cX3_agree 12 = .ok (.bipush (-2), 2) := by decide +kernel
theorem dX3_agree_14 : decode cX3_agree 14 = .ok (.invokevirtual 51, 3) := by decide +kernel
theorem dX3_agree_17 : decode cX3_agree 17 = .ok (.ireturn, 1) := by decide +kernel
theorem dX3_agree_18 : decode cX3_agree 18 = .ok (.iconst 0, 1) := by decide +kernel
theorem dX3_agree_19 : decode cX3_agree 19 = .ok (.istore_n 2, 1) := by decide +kernel
theorem dX3_agree_20 : decode cX3_agree 20 = .ok (.iconst 0, 1) := by decide +kernel
theorem dX3_agree_21 : decode cX3_agree 21 = .ok (.istore_n 3, 1) := by decide +kernel
theorem dX3_agree_22 : decode cX3_agree 22 = .ok (.iload_n 3, 1) := by decide +kernel
theorem dX3_agree_23 : decode cX3_agree 23 = .ok (.aload_n 0, 1) := by decide +kernel
theorem dX3_agree_24 : decode cX3_agree 24 = .ok (.getfield 10, 3) := by decide +kernel
theorem dX3_agree_27 : decode cX3_agree 27 = .ok (.getfield 123, 3) := by decide +kernel
theorem dX3_agree_30 : decode cX3_agree 30 = .ok (.if_icmp .ge 57, 3) := by decide +kernel
theorem dX3_agree_33 : decode cX3_agree 33 = .ok (.iload_n 3, 1) := by decide +kernel
theorem dX3_agree_34 : decode cX3_agree 34 = .ok (.iconst 1, 1) := by decide +kernel
theorem dX3_agree_35 : decode cX3_agree 35 = .ok (.iadd, 1) := by decide +kernel
theorem dX3_agree_36 : decode cX3_agree 36 = .ok (.istore 4, 2) := by decide +kernel
theorem dX3_agree_38 : decode cX3_agree 38 = .ok (.iload 4, 2) := by decide +kernel
theorem dX3_agree_40 : decode cX3_agree 40 = .ok (.aload_n 0, 1) := by decide +kernel
theorem dX3_agree_41 : decode cX3_agree 41 = .ok (.getfield 10, 3) := by decide +kernel
theorem dX3_agree_44 : decode cX3_agree 44 = .ok (.getfield 123, 3) := by decide +kernel
theorem dX3_agree_47 : decode cX3_agree 47 = .ok (.if_icmp .ge 34, 3) := by decide +kernel
theorem dX3_agree_50 : decode cX3_agree 50 = .ok (.aload_n 0, 1) := by decide +kernel
theorem dX3_agree_51 : decode cX3_agree 51 = .ok (.getfield 10, 3) := by decide +kernel
theorem dX3_agree_54 : decode cX3_agree 54 = .ok (.iload_n 3, 1) := by decide +kernel
theorem dX3_agree_55 : decode cX3_agree 55 = .ok (.iload_n 1, 1) := by decide +kernel
theorem dX3_agree_56 : decode cX3_agree 56 = .ok (.invokevirtual 198, 3) := by decide +kernel
theorem dX3_agree_59 : decode cX3_agree 59 = .ok (.aload_n 0, 1) := by decide +kernel
theorem dX3_agree_60 : decode cX3_agree 60 = .ok (.getfield 10, 3) := by decide +kernel
theorem dX3_agree_63 : decode cX3_agree 63 = .ok (.iload 4, 2) := by decide +kernel
theorem dX3_agree_65 : decode cX3_agree 65 = .ok (.iload_n 1, 1) := by decide +kernel
theorem dX3_agree_66 : decode cX3_agree 66 = .ok (.invokevirtual 198, 3) := by decide +kernel
theorem dX3_agree_69 : decode cX3_agree 69 = .ok (.if_icmp .ne 6, 3) := by decide +kernel
theorem dX3_agree_72 : decode cX3_agree 72 = .ok (.iinc 2 1, 3) := by decide +kernel
theorem dX3_agree_75 : decode cX3_agree 75 = .ok (.iinc 4 1, 3) := by decide +kernel
theorem dX3_agree_78 : decode cX3_agree 78 = .ok (.goto (-40), 3) := by decide +kernel
theorem dX3_agree_81 : decode cX3_agree 81 = .ok (.iinc 3 1, 3) := by decide +kernel
theorem dX3_agree_84 : decode cX3_agree 84 = .ok (.goto (-62), 3) := by decide +kernel
theorem dX3_agree_87 : decode cX3_agree 87 = .ok (.iload_n 2, 1) := by decide +kernel
theorem dX3_agree_88 : decode cX3_agree 88 = .ok (.ireturn, 1) := by decide +kernel
theorem dX3_foresees_0 : decode cX3_foresees 0 = .ok (.aload_n 0, 1) := by decide +kernel
theorem dX3_foresees_1 : decode cX3_foresees 1 = .ok (.getfield 10, 3) := by decide +kernel
theorem dX3_foresees_4 : decode cX3_foresees 4 = .ok (.iload_n 1, 1) := by decide +kernel
theorem dX3_foresees_5 : decode cX3_foresees 5 = .ok (.invokevirtual 94, 3) := by decide +kernel
theorem dX3_foresees_8 : decode cX3_foresees 8 = .ok (.ifCond .eq 19, 3) := by decide +kernel
theorem dX3_foresees_11 : decode cX3_foresees 11 = .ok (.aload_n 0, 1) := by decide +kernel
theorem dX3_foresees_12 : decode cX3_foresees 12 = .ok (.getfield 10, 3) := by decide +kernel
theorem dX3_foresees_15 : decode cX3_foresees 15 = .ok (.iload_n 2, 1) := by decide +kernel
theorem dX3_foresees_16 : decode cX3_foresees 16 = .ok (.invokevirtual 94, 3) := by decide +kernel
theorem dX3_foresees_19 : decode cX3_foresees 19 = .ok (.ifCond .eq 8, 3) := by decide +kernel
theorem dX3_foresees_22 : decode cX3_foresees 22 = .ok (.iload_n 1, 1) := by decide +kernel
theorem dX3_foresees_23 : decode cX3_foresees 23 = .ok (.iload_n 2, 1) := by decide +kernel
theorem dX3_foresees_24 : decode cX3_foresees 24 = .ok (.if_icmp .ne 10, 3) := by decide +kernel
theorem dX3_foresees_27 : decode cX3_foresees 27 = .ok (.aload_n 0, 1) := by decide +kernel
theorem dX3_foresees_28 : decode cX3_foresees 28 = .ok (.bipush (-2), 2) := by decide +kernel
theorem dX3_foresees_30 : decode cX3_foresees 30 = .ok (.invokevirtual 51, 3) := by decide +kernel
theorem dX3_foresees_33 : decode cX3_foresees 33 = .ok (.ireturn, 1) := by decide +kernel
theorem dX3_foresees_34 : decode cX3_foresees 34 = .ok (.aload_n 0, 1) := by decide +kernel
theorem dX3_foresees_35 : decode cX3_foresees 35 = .ok (.getfield 10, 3) := by decide +kernel
theorem dX3_foresees_38 : decode cX3_foresees 38 = .ok (.iload_n 1, 1) := by decide +kernel
theorem dX3_foresees_39 : decode cX3_foresees 39 = .ok (.iload_n 2, 1) := by decide +kernel
theorem dX3_foresees_40 : decode cX3_foresees 40 = .ok (.invokevirtual 213, 3) := by decide +kernel
theorem dX3_foresees_43 : decode cX3_foresees 43 = .ok (.ifCond .eq 7, 3) := by decide +kernel
theorem dX3_foresees_46 : decode cX3_foresees 46 = .ok (.iconst 1, 1) := by decide +kernel
theorem dX3_foresees_47 : decode cX3_foresees 47 = .ok (.goto 4, 3) := by decide +kernel
theorem dX3_foresees_50 : decode cX3_foresees 50 = .ok (.iconst 0, 1) := by decide +kernel
theorem dX3_foresees_51 : decode cX3_foresees 51 = .ok (.ireturn, 1) := by decide +kernel
theorem dX3_foreseen_0 : decode cX3_foreseen 0 = .ok (.aload_n 0, 1) := by decide +kernel
theorem dX3_foreseen_1 : decode cX3_foreseen 1 = .ok (.getfield 10, 3) := by decide +kernel
theorem dX3_foreseen_4 : decode cX3_foreseen 4 = .ok (.iload_n 1, 1) := by decide +kernel
theorem dX3_foreseen_5 : decode cX3_foreseen 5 = .ok (.invokevirtual 94, 3) := by decide +kernel
theorem dX3_foreseen_8 : decode cX3_foreseen 8 = .ok (.ifCond .ne 10, 3) := by decide +kernel
theorem dX3_foreseen_11 : decode cX3_foreseen 11 = .ok (.aload_n 0, 1) := by decide +kernel
theorem dX3_foreseen_12 : decode cX3_foreseen 12 = .ok (.bipush (-2), 2) := by decide +kernel
theorem dX3_foreseen_14 : decode cX3_foreseen 14 = .ok (.invokevirtual 51, 3) := by decide +kernel
theorem dX3_foreseen_17 : decode cX3_foreseen 17 = .ok (.ireturn, 1) := by decide +kernel
theorem dX3_foreseen_18 : decode cX3_foreseen 18 = .ok (.iconst 0, 1) := by decide +kernel
theorem dX3_foreseen_19 : decode cX3_foreseen 19 = .ok (.istore_n 2, 1) := by decide +kernel
theorem dX3_foreseen_20 : decode cX3_foreseen 20 = .ok (.iconst 0, 1) := by decide +kernel
theorem dX3_foreseen_21 : decode cX3_foreseen 21 = .ok (.istore_n 3, 1) := by decide +kernel
theorem dX3_foreseen_22 : decode cX3_foreseen 22 = .ok (.iload_n 3, 1) := by decide +kernel
theorem dX3_foreseen_23 : decode cX3_foreseen 23 = .ok (.aload_n 0, 1) := by decide +kernel
theorem dX3_foreseen_24 : decode cX3_foreseen 24 = .ok (.getfield 10, 3) := by decide +kernel
theorem dX3_foreseen_27 : decode cX3_foreseen 27 = .ok (.getfield 123, 3) := by decide +kernel
theorem dX3_foreseen_30 : decode cX3_foreseen 30 = .ok (.if_icmp .ge 32, 3) := by decide +kernel
theorem dX3_foreseen_33 : decode cX3_foreseen 33 = .ok (.iload_n 3, 1) := by decide +kernel
theorem dX3_foreseen_34 : decode cX3_foreseen 34 = .ok (.iload_n 1, 1) := by decide +kernel
theorem dX3_foreseen_35 : decode cX3_foreseen 35 = .ok (.if_icmp .eq 21, 3) := by decide +kernel
theorem dX3_foreseen_38 : decode cX3_foreseen 38 = .ok (.aload_n 0, 1) := by decide +kernel
theorem dX3_foreseen_39 : decode cX3_foreseen 39 = .ok (.getfield 10, 3) := by decide +kernel
theorem dX3_foreseen_42 : decode cX3_foreseen 42 = .ok (.iload_n 3, 1) := by decide +kernel
theorem dX3_foreseen_43 : decode cX3_foreseen 43 = .ok (.iload_n 1, 1) := by decide +kernel
theorem dX3_foreseen_44 : decode cX3_foreseen 44 = .ok (.invokevirtual 213, 3) := by decide +kernel
theorem dX3_foreseen_47 : decode cX3_foreseen 47 = .ok (.ifCond .eq 9, 3) := by decide +kernel
theorem dX3_foreseen_50 : decode cX3_foreseen 50 = .ok (.iload_n 2, 1) := by decide +kernel
theorem dX3_foreseen_51 : decode cX3_foreseen 51 = .ok (.iconst 1, 1) := by decide +kernel
theorem dX3_foreseen_52 : decode cX3_foreseen 52 = .ok (.iload_n 3, 1) := by decide +kernel
theorem dX3_foreseen_53 : decode cX3_foreseen 53 = .ok (.ishl, 1) := by decide +kernel
theorem dX3_foreseen_54 : decode cX3_foreseen 54 = .ok (.ior, 1) := by decide +kernel
theorem dX3_foreseen_55 : decode cX3_foreseen 55 = .ok (.istore_n 2, 1) := by decide +kernel
theorem dX3_foreseen_56 : decode cX3_foreseen 56 = .ok (.iinc 3 1, 3) := by decide +kernel
theorem dX3_foreseen_59 : decode cX3_foreseen 59 = .ok (.goto (-37), 3) := by decide +kernel
theorem dX3_foreseen_62 : decode cX3_foreseen 62 = .ok (.iload_n 2, 1) := by decide +kernel
theorem dX3_foreseen_63 : decode cX3_foreseen 63 = .ok (.ireturn, 1) := by decide +kernel
theorem dX3_deepest_0 : decode cX3_deepest 0 = .ok (.aload_n 0, 1) := by decide +kernel
theorem dX3_deepest_1 : decode cX3_deepest 1 = .ok (.getfield 10, 3) := by decide +kernel
theorem dX3_deepest_4 : decode cX3_deepest 4 = .ok (.getfield 123, 3) := by decide +kernel
theorem dX3_deepest_7 : decode cX3_deepest 7 = .ok (.ifCond .ne 10, 3) := by decide +kernel
theorem dX3_deepest_10 : decode cX3_deepest 10 = .ok (.aload_n 0, 1) := by decide +kernel
theorem dX3_deepest_11 : decode cX3_deepest 11 = .ok (.bipush (-5), 2) := by decide +kernel
theorem dX3_deepest_13 : decode cX3_deepest 13 = .ok (.invokevirtual 51, 3) := by decide +kernel
theorem dX3_deepest_16 : decode cX3_deepest 16 = .ok (.ireturn, 1) := by decide +kernel
theorem dX3_deepest_17 : decode cX3_deepest 17 = .ok (.iconst 0, 1) := by decide +kernel
theorem dX3_deepest_18 : decode cX3_deepest 18 = .ok (.istore_n 1, 1) := by decide +kernel
theorem dX3_deepest_19 : decode cX3_deepest 19 = .ok (.iconst 1, 1) := by decide +kernel
theorem dX3_deepest_20 : decode cX3_deepest 20 = .ok (.istore_n 2, 1) := by decide +kernel
theorem dX3_deepest_21 : decode cX3_deepest 21 = .ok (.iload_n 2, 1) := by decide +kernel
theorem dX3_deepest_22 : decode cX3_deepest 22 = .ok (.aload_n 0, 1) := by decide +kernel
theorem dX3_deepest_23 : decode cX3_deepest 23 = .ok (.getfield 10, 3) := by decide +kernel
theorem dX3_deepest_26 : decode cX3_deepest 26 = .ok (.getfield 123, 3) := by decide +kernel
theorem dX3_deepest_29 : decode cX3_deepest 29 = .ok (.if_icmp .ge 30, 3) := by decide +kernel
theorem dX3_deepest_32 : decode cX3_deepest 32 = .ok (.aload_n 0, 1) := by decide +kernel
theorem dX3_deepest_33 : decode cX3_deepest 33 = .ok (.getfield 10, 3) := by decide +kernel
theorem dX3_deepest_36 : decode cX3_deepest 36 = .ok (.iload_n 2, 1) := by decide +kernel
theorem dX3_deepest_37 : decode cX3_deepest 37 = .ok (.invokevirtual 186, 3) := by decide +kernel
theorem dX3_deepest_40 : decode cX3_deepest 40 = .ok (.aload_n 0, 1) := by decide +kernel
theorem dX3_deepest_41 : decode cX3_deepest 41 = .ok (.getfield 10, 3) := by decide +kernel
theorem dX3_deepest_44 : decode cX3_deepest 44 = .ok (.iload_n 1, 1) := by decide +kernel
theorem dX3_deepest_45 : decode cX3_deepest 45 = .ok (.invokevirtual 186, 3) := by decide +kernel
theorem dX3_deepest_48 : decode cX3_deepest 48 = .ok (.if_icmp .le 5, 3) := by decide +kernel
theorem dX3_deepest_51 : decode cX3_deepest 51 = .ok (.iload_n 2, 1) := by decide +kernel
theorem dX3_deepest_52 : decode cX3_deepest 52 = .ok (.istore_n 1, 1) := by decide +kernel
theorem dX3_deepest_53 : decode cX3_deepest 53 = .ok (.iinc 2 1, 3) := by decide +kernel
theorem dX3_deepest_56 : decode cX3_deepest 56 = .ok (.goto (-35), 3) := by decide +kernel
theorem dX3_deepest_59 : decode cX3_deepest 59 = .ok (.iload_n 1, 1) := by decide +kernel
theorem dX3_deepest_60 : decode cX3_deepest 60 = .ok (.ireturn, 1) := by decide +kernel
theorem dX3_asleep_0 : decode cX3_asleep 0 = .ok (.aload_n 0, 1) := by decide +kernel
theorem dX3_asleep_1 : decode cX3_asleep 1 = .ok (.getfield 10, 3) := by decide +kernel
theorem dX3_asleep_4 : decode cX3_asleep 4 = .ok (.iload_n 1, 1) := by decide +kernel
theorem dX3_asleep_5 : decode cX3_asleep 5 = .ok (.invokevirtual 129, 3) := by decide +kernel
theorem dX3_asleep_8 : decode cX3_asleep 8 = .ok (.ifCond .ne 10, 3) := by decide +kernel
theorem dX3_asleep_11 : decode cX3_asleep 11 = .ok (.aload_n 0, 1) := by decide +kernel
theorem dX3_asleep_12 : decode cX3_asleep 12 = .ok (.bipush (-2), 2) := by decide +kernel
theorem dX3_asleep_14 : decode cX3_asleep 14 = .ok (.invokevirtual 51, 3) := by decide +kernel
theorem dX3_asleep_17 : decode cX3_asleep 17 = .ok (.ireturn, 1) := by decide +kernel
theorem dX3_asleep_18 : decode cX3_asleep 18 = .ok (.iconst 0, 1) := by decide +kernel
theorem dX3_asleep_19 : decode cX3_asleep 19 = .ok (.istore_n 2, 1) := by decide +kernel
theorem dX3_asleep_20 : decode cX3_asleep 20 = .ok (.iconst 0, 1) := by decide +kernel
theorem dX3_asleep_21 : decode cX3_asleep 21 = .ok (.istore_n 3, 1) := by decide +kernel
theorem dX3_asleep_22 : decode cX3_asleep 22 = .ok (.iload_n 3, 1) := by decide +kernel
theorem dX3_asleep_23 : decode cX3_asleep 23 = .ok (.aload_n 0, 1) := by decide +kernel
theorem dX3_asleep_24 : decode cX3_asleep 24 = .ok (.getfield 10, 3) := by decide +kernel
theorem dX3_asleep_27 : decode cX3_asleep 27 = .ok (.getfield 123, 3) := by decide +kernel
theorem dX3_asleep_30 : decode cX3_asleep 30 = .ok (.if_icmp .ge 27, 3) := by decide +kernel
theorem dX3_asleep_33 : decode cX3_asleep 33 = .ok (.aload_n 0, 1) := by decide +kernel
theorem dX3_asleep_34 : decode cX3_asleep 34 = .ok (.getfield 10, 3) := by decide +kernel
theorem dX3_asleep_37 : decode cX3_asleep 37 = .ok (.iload_n 3, 1) := by decide +kernel
theorem dX3_asleep_38 : decode cX3_asleep 38 = .ok (.iload_n 1, 1) := by decide +kernel
theorem dX3_asleep_39 : decode cX3_asleep 39 = .ok (.invokevirtual 216, 3) := by decide +kernel
theorem dX3_asleep_42 : decode cX3_asleep 42 = .ok (.ifCond .eq 9, 3) := by decide +kernel
theorem dX3_asleep_45 : decode cX3_asleep 45 = .ok (.iload_n 2, 1) := by decide +kernel
theorem dX3_asleep_46 : decode cX3_asleep 46 = .ok (.iconst 1, 1) := by decide +kernel
theorem dX3_asleep_47 : decode cX3_asleep 47 = .ok (.iload_n 3, 1) := by decide +kernel
theorem dX3_asleep_48 : decode cX3_asleep 48 = .ok (.ishl, 1) := by decide +kernel
theorem dX3_asleep_49 : decode cX3_asleep 49 = .ok (.ior, 1) := by decide +kernel
theorem dX3_asleep_50 : decode cX3_asleep 50 = .ok (.istore_n 2, 1) := by decide +kernel
theorem dX3_asleep_51 : decode cX3_asleep 51 = .ok (.iinc 3 1, 3) := by decide +kernel
theorem dX3_asleep_54 : decode cX3_asleep 54 = .ok (.goto (-32), 3) := by decide +kernel
theorem dX3_asleep_57 : decode cX3_asleep 57 = .ok (.iload_n 2, 1) := by decide +kernel
theorem dX3_asleep_58 : decode cX3_asleep 58 = .ok (.ireturn, 1) := by decide +kernel
theorem dX3_surprises_0 : decode cX3_surprises 0 = .ok (.aload_n 0, 1) := by decide +kernel
theorem dX3_surprises_1 : decode cX3_surprises 1 = .ok (.getfield 10, 3) := by decide +kernel
theorem dX3_surprises_4 : decode cX3_surprises 4 = .ok (.invokevirtual 219, 3) := by decide +kernel
theorem dX3_surprises_7 : decode cX3_surprises 7 = .ok (.ireturn, 1) := by decide +kernel
theorem dX3_longest_0 : decode cX3_longest 0 = .ok (.iconst 0, 1) := by decide +kernel
theorem dX3_longest_1 : decode cX3_longest 1 = .ok (.istore_n 1, 1) := by decide +kernel
theorem dX3_longest_2 : decode cX3_longest 2 = .ok (.iconst 0, 1) := by decide +kernel
theorem dX3_longest_3 : decode cX3_longest 3 = .ok (.istore_n 2, 1) := by decide +kernel
theorem dX3_longest_4 : decode cX3_longest 4 = .ok (.aload_n 0, 1) := by decide +kernel
theorem dX3_longest_5 : decode cX3_longest 5 = .ok (.getfield 10, 3) := by decide +kernel
theorem dX3_longest_8 : decode cX3_longest 8 = .ok (.invokevirtual 219, 3) := by decide +kernel
theorem dX3_longest_11 : decode cX3_longest 11 = .ok (.istore_n 3, 1) := by decide +kernel
theorem dX3_longest_12 : decode cX3_longest 12 = .ok (.iconst 0, 1) := by decide +kernel
theorem dX3_longest_13 : decode cX3_longest 13 = .ok (.istore 4, 2) := by decide +kernel
theorem dX3_longest_15 : decode cX3_longest 15 = .ok (.iload 4, 2) := by decide +kernel
theorem dX3_longest_17 : decode cX3_longest 17 = .ok (.aload_n 0, 1) := by decide +kernel
theorem dX3_longest_18 : decode cX3_longest 18 = .ok (.getfield 10, 3) := by decide +kernel
theorem dX3_longest_21 : decode cX3_longest 21 = .ok (.getfield 117, 3) := by decide +kernel
theorem dX3_longest_24 : decode cX3_longest 24 = .ok (.if_icmp .ge 32, 3) := by decide +kernel
theorem dX3_longest_27 : decode cX3_longest 27 = .ok (.iload_n 3, 1) := by decide +kernel
theorem dX3_longest_28 : decode cX3_longest 28 = .ok (.iload 4, 2) := by decide +kernel
theorem dX3_longest_30 : decode cX3_longest 30 = .ok (.invokestatic 201, 3) := by decide +kernel
theorem dX3_longest_33 : decode cX3_longest 33 = .ok (.ifCond .eq 9, 3) := by decide +kernel
theorem dX3_longest_36 : decode cX3_longest 36 = .ok (.iload_n 2, 1) := by decide +kernel
theorem dX3_longest_37 : decode cX3_longest 37 = .ok (.iconst 1, 1) := by decide +kernel
theorem dX3_longest_38 : decode cX3_longest 38 = .ok (.iadd, 1) := by decide +kernel
theorem dX3_longest_39 : decode cX3_longest 39 = .ok (.goto 4, 3) := by decide +kernel
theorem dX3_longest_42 : decode cX3_longest 42 = .ok (.iconst 0, 1) := by decide +kernel
theorem dX3_longest_43 : decode cX3_longest 43 = .ok (.istore_n 2, 1) := by decide +kernel
theorem dX3_longest_44 : decode cX3_longest 44 = .ok (.iload_n 1, 1) := by decide +kernel
theorem dX3_longest_45 : decode cX3_longest 45 = .ok (.iload_n 2, 1) := by decide +kernel
theorem dX3_longest_46 : decode cX3_longest 46 = .ok (.invokestatic 222, 3) := by decide +kernel
theorem dX3_longest_49 : decode cX3_longest 49 = .ok (.istore_n 1, 1) := by decide +kernel
theorem dX3_longest_50 : decode cX3_longest 50 = .ok (.iinc 4 1, 3) := by decide +kernel
theorem dX3_longest_53 : decode cX3_longest 53 = .ok (.goto (-38), 3) := by decide +kernel
theorem dX3_longest_56 : decode cX3_longest 56 = .ok (.iload_n 1, 1) := by decide +kernel
theorem dX3_longest_57 : decode cX3_longest 57 = .ok (.ireturn, 1) := by decide +kernel
theorem dX3_odds_0 : decode cX3_odds 0 = .ok (.aload_n 0, 1) := by decide +kernel
theorem dX3_odds_1 : decode cX3_odds 1 = .ok (.getfield 10, 3) := by decide +kernel
theorem dX3_odds_4 : decode cX3_odds 4 = .ok (.iload_n 1, 1) := by decide +kernel
theorem dX3_odds_5 : decode cX3_odds 5 = .ok (.invokevirtual 129, 3) := by decide +kernel
theorem dX3_odds_8 : decode cX3_odds 8 = .ok (.ifCond .ne 10, 3) := by decide +kernel
theorem dX3_odds_11 : decode cX3_odds 11 = .ok (.aload_n 0, 1) := by decide +kernel
theorem dX3_odds_12 : decode cX3_odds 12 = .ok (.bipush (-2), 2) := by decide +kernel
theorem dX3_odds_14 : decode cX3_odds 14 = .ok (.invokevirtual 51, 3) := by decide +kernel
theorem dX3_odds_17 : decode cX3_odds 17 = .ok (.ireturn, 1) := by decide +kernel
theorem dX3_odds_18 : decode cX3_odds 18 = .ok (.aload_n 0, 1) := by decide +kernel
theorem dX3_odds_19 : decode cX3_odds 19 = .ok (.getfield 10, 3) := by decide +kernel
theorem dX3_odds_22 : decode cX3_odds 22 = .ok (.aload_n 0, 1) := by decide +kernel
theorem dX3_odds_23 : decode cX3_odds 23 = .ok (.getfield 10, 3) := by decide +kernel
theorem dX3_odds_26 : decode cX3_odds 26 = .ok (.iload_n 1, 1) := by decide +kernel
theorem dX3_odds_27 : decode cX3_odds 27 = .ok (.invokevirtual 192, 3) := by decide +kernel
theorem dX3_odds_30 : decode cX3_odds 30 = .ok (.invokevirtual 195, 3) := by decide +kernel
theorem dX3_odds_33 : decode cX3_odds 33 = .ok (.ifCond .ne 12, 3) := by decide +kernel
theorem dX3_odds_36 : decode cX3_odds 36 = .ok (.aload_n 0, 1) := by decide +kernel
theorem dX3_odds_37 : decode cX3_odds 37 = .ok (.bipush (-5), 2) := by decide +kernel
theorem dX3_odds_39 : decode cX3_odds 39 = .ok (.invokevirtual 51, 3) := by decide +kernel
theorem dX3_odds_42 : decode cX3_odds 42 = .ok (.goto 11, 3) := by decide +kernel
theorem dX3_odds_45 : decode cX3_odds 45 = .ok (.aload_n 0, 1) := by decide +kernel
theorem dX3_odds_46 : decode cX3_odds 46 = .ok (.getfield 10, 3) := by decide +kernel
theorem dX3_odds_49 : decode cX3_odds 49 = .ok (.iload_n 1, 1) := by decide +kernel
theorem dX3_odds_50 : decode cX3_odds 50 = .ok (.invokevirtual 227, 3) := by decide +kernel
theorem dX3_odds_53 : decode cX3_odds 53 = .ok (.ireturn, 1) := by decide +kernel
theorem dX3_likeliest_0 : decode cX3_likeliest 0 = .ok (.iconst (-1), 1) := by decide +kernel
theorem dX3_likeliest_1 : decode cX3_likeliest 1 = .ok (.istore_n 1, 1) := by decide +kernel
theorem dX3_likeliest_2 : decode cX3_likeliest 2 = .ok (.iconst (-1), 1) := by decide +kernel
theorem dX3_likeliest_3 : decode cX3_likeliest 3 = .ok (.istore_n 2, 1) := by decide +kernel
theorem dX3_likeliest_4 : decode cX3_likeliest 4 = .ok (.iconst 0, 1) := by decide +kernel
theorem dX3_likeliest_5 : decode cX3_likeliest 5 = .ok (.istore_n 3, 1) := by decide +kernel
theorem dX3_likeliest_6 : decode cX3_likeliest 6 = .ok (.iload_n 3, 1) := by decide +kernel
theorem dX3_likeliest_7 : decode cX3_likeliest 7 = .ok (.aload_n 0, 1) := by decide +kernel
theorem dX3_likeliest_8 : decode cX3_likeliest 8 = .ok (.getfield 10, 3) := by decide +kernel
theorem dX3_likeliest_11 : decode cX3_likeliest 11 = .ok (.getfield 117, 3) := by decide +kernel
theorem dX3_likeliest_14 : decode cX3_likeliest 14 = .ok (.if_icmp .ge 32, 3) := by decide +kernel
theorem dX3_likeliest_17 : decode cX3_likeliest 17 = .ok (.aload_n 0, 1) := by decide +kernel
theorem dX3_likeliest_18 : decode cX3_likeliest 18 = .ok (.getfield 10, 3) := by decide +kernel
theorem dX3_likeliest_21 : decode cX3_likeliest 21 = .ok (.iload_n 3, 1) := by decide +kernel
theorem dX3_likeliest_22 : decode cX3_likeliest 22 = .ok (.invokevirtual 227, 3) := by decide +kernel
theorem dX3_likeliest_25 : decode cX3_likeliest 25 = .ok (.iload_n 2, 1) := by decide +kernel
theorem dX3_likeliest_26 : decode cX3_likeliest 26 = .ok (.if_icmp .le 14, 3) := by decide +kernel
theorem dX3_likeliest_29 : decode cX3_likeliest 29 = .ok (.aload_n 0, 1) := by decide +kernel
theorem dX3_likeliest_30 : decode cX3_likeliest 30 = .ok (.getfield 10, 3) := by decide +kernel
theorem dX3_likeliest_33 : decode cX3_likeliest 33 = .ok (.iload_n 3, 1) := by decide +kernel
theorem dX3_likeliest_34 : decode cX3_likeliest 34 = .ok (.invokevirtual 227, 3) := by decide +kernel
theorem dX3_likeliest_37 : decode cX3_likeliest 37 = .ok (.istore_n 2, 1) := by decide +kernel
theorem dX3_likeliest_38 : decode cX3_likeliest 38 = .ok (.iload_n 3, 1) := by decide +kernel
theorem dX3_likeliest_39 : decode cX3_likeliest 39 = .ok (.istore_n 1, 1) := by decide +kernel
theorem dX3_likeliest_40 : decode cX3_likeliest 40 = .ok (.iinc 3 1, 3) := by decide +kernel
theorem dX3_likeliest_43 : decode cX3_likeliest 43 = .ok (.goto (-37), 3) := by decide +kernel
theorem dX3_likeliest_46 : decode cX3_likeliest 46 = .ok (.iload_n 1, 1) := by decide +kernel
theorem dX3_likeliest_47 : decode cX3_likeliest 47 = .ok (.iconst (-1), 1) := by decide +kernel
theorem dX3_likeliest_48 : decode cX3_likeliest 48 = .ok (.if_icmp .ne 12, 3) := by decide +kernel
theorem dX3_likeliest_51 : decode cX3_likeliest 51 = .ok (.aload_n 0, 1) := by decide +kernel
theorem dX3_likeliest_52 : decode cX3_likeliest 52 = .ok (.bipush (-5), 2) := by decide +kernel
theorem dX3_likeliest_54 : decode cX3_likeliest 54 = .ok (.invokevirtual 51, 3) := by decide +kernel
theorem dX3_likeliest_57 : decode cX3_likeliest 57 = .ok (.goto 4, 3) := by decide +kernel
theorem dX3_likeliest_60 : decode cX3_likeliest 60 = .ok (.iload_n 1, 1) := by decide +kernel
theorem dX3_likeliest_61 : decode cX3_likeliest 61 = .ok (.ireturn, 1) := by decide +kernel
theorem dX3_caught_0 : decode cX3_caught 0 = .ok (.aload_n 0, 1) := by decide +kernel
theorem dX3_caught_1 : decode cX3_caught 1 = .ok (.getfield 10, 3) := by decide +kernel
theorem dX3_caught_4 : decode cX3_caught 4 = .ok (.aload_n 0, 1) := by decide +kernel
theorem dX3_caught_5 : decode cX3_caught 5 = .ok (.getfield 10, 3) := by decide +kernel
theorem dX3_caught_8 : decode cX3_caught 8 = .ok (.getfield 135, 3) := by decide +kernel
theorem dX3_caught_11 : decode cX3_caught 11 = .ok (.invokevirtual 195, 3) := by decide +kernel
theorem dX3_caught_14 : decode cX3_caught 14 = .ok (.istore_n 1, 1) := by decide +kernel
theorem dX3_caught_15 : decode cX3_caught 15 = .ok (.iload_n 1, 1) := by decide +kernel
theorem dX3_caught_16 : decode cX3_caught 16 = .ok (.ifCond .ne 10, 3) := by decide +kernel
theorem dX3_caught_19 : decode cX3_caught 19 = .ok (.aload_n 0, 1) := by decide +kernel
theorem dX3_caught_20 : decode cX3_caught 20 = .ok (.bipush (-5), 2) := by decide +kernel
theorem dX3_caught_22 : decode cX3_caught 22 = .ok (.invokevirtual 51, 3) := by decide +kernel
theorem dX3_caught_25 : decode cX3_caught 25 = .ok (.ireturn, 1) := by decide +kernel
theorem dX3_caught_26 : decode cX3_caught 26 = .ok (.aload_n 0, 1) := by decide +kernel
theorem dX3_caught_27 : decode cX3_caught 27 = .ok (.getfield 10, 3) := by decide +kernel
theorem dX3_caught_30 : decode cX3_caught 30 = .ok (.aload_n 0, 1) := by decide +kernel
theorem dX3_caught_31 : decode cX3_caught 31 = .ok (.getfield 10, 3) := by decide +kernel
theorem dX3_caught_34 : decode cX3_caught 34 = .ok (.getfield 135, 3) := by decide +kernel
theorem dX3_caught_37 : decode cX3_caught 37 = .ok (.aload_n 0, 1) := by decide +kernel
theorem dX3_caught_38 : decode cX3_caught 38 = .ok (.getfield 10, 3) := by decide +kernel
theorem dX3_caught_41 : decode cX3_caught 41 = .ok (.invokevirtual 219, 3) := by decide +kernel
theorem dX3_caught_44 : decode cX3_caught 44 = .ok (.iconst (-1), 1) := by decide +kernel
theorem dX3_caught_45 : decode cX3_caught 45 = .ok (.ixor, 1) := by decide +kernel
theorem dX3_caught_46 : decode cX3_caught 46 = .ok (.iand, 1) := by decide +kernel
theorem dX3_caught_47 : decode cX3_caught 47 = .ok (.invokevirtual 195, 3) := by decide +kernel
theorem dX3_caught_50 : decode cX3_caught 50 = .ok (.iload_n 1, 1) := by decide +kernel
theorem dX3_caught_51 : decode cX3_caught 51 = .ok (.invokestatic 230, 3) := by decide +kernel
theorem dX3_caught_54 : decode cX3_caught 54 = .ok (.ireturn, 1) := by decide +kernel
theorem dX3_by_0 : decode cX3_by 0 = .ok (.aload_n 0, 1) := by decide +kernel
theorem dX3_by_1 : decode cX3_by 1 = .ok (.getfield 10, 3) := by decide +kernel
theorem dX3_by_4 : decode cX3_by 4 = .ok (.iload_n 1, 1) := by decide +kernel
theorem dX3_by_5 : decode cX3_by 5 = .ok (.invokevirtual 129, 3) := by decide +kernel
theorem dX3_by_8 : decode cX3_by 8 = .ok (.ifCond .ne 10, 3) := by decide +kernel
theorem dX3_by_11 : decode cX3_by 11 = .ok (.aload_n 0, 1) := by decide +kernel
theorem dX3_by_12 : decode cX3_by 12 = .ok (.bipush (-2), 2) := by decide +kernel
theorem dX3_by_14 : decode cX3_by 14 = .ok (.invokevirtual 51, 3) := by decide +kernel
theorem dX3_by_17 : decode cX3_by 17 = .ok (.ireturn, 1) := by decide +kernel
theorem dX3_by_18 : decode cX3_by 18 = .ok (.aload_n 0, 1) := by decide +kernel
theorem dX3_by_19 : decode cX3_by 19 = .ok (.getfield 10, 3) := by decide +kernel
theorem dX3_by_22 : decode cX3_by 22 = .ok (.aload_n 0, 1) := by decide +kernel
theorem dX3_by_23 : decode cX3_by 23 = .ok (.getfield 10, 3) := by decide +kernel
theorem dX3_by_26 : decode cX3_by 26 = .ok (.getfield 135, 3) := by decide +kernel
theorem dX3_by_29 : decode cX3_by 29 = .ok (.invokevirtual 195, 3) := by decide +kernel
theorem dX3_by_32 : decode cX3_by 32 = .ok (.istore_n 2, 1) := by decide +kernel
theorem dX3_by_33 : decode cX3_by 33 = .ok (.iload_n 2, 1) := by decide +kernel
theorem dX3_by_34 : decode cX3_by 34 = .ok (.ifCond .ne 10, 3) := by decide +kernel
theorem dX3_by_37 : decode cX3_by 37 = .ok (.aload_n 0, 1) := by decide +kernel
theorem dX3_by_38 : decode cX3_by 38 = .ok (.bipush (-5), 2) := by decide +kernel
theorem dX3_by_40 : decode cX3_by 40 = .ok (.invokevirtual 51, 3) := by decide +kernel
theorem dX3_by_43 : decode cX3_by 43 = .ok (.ireturn, 1) := by decide +kernel
theorem dX3_by_44 : decode cX3_by 44 = .ok (.aload_n 0, 1) := by decide +kernel
theorem dX3_by_45 : decode cX3_by 45 = .ok (.getfield 10, 3) := by decide +kernel
theorem dX3_by_48 : decode cX3_by 48 = .ok (.iload_n 1, 1) := by decide +kernel
theorem dX3_by_49 : decode cX3_by 49 = .ok (.invokevirtual 192, 3) := by decide +kernel
theorem dX3_by_52 : decode cX3_by 52 = .ok (.iconst 1, 1) := by decide +kernel
theorem dX3_by_53 : decode cX3_by 53 = .ok (.iload_n 1, 1) := by decide +kernel
theorem dX3_by_54 : decode cX3_by 54 = .ok (.ishl, 1) := by decide +kernel
theorem dX3_by_55 : decode cX3_by 55 = .ok (.iconst (-1), 1) := by decide +kernel
theorem dX3_by_56 : decode cX3_by 56 = .ok (.ixor, 1) := by decide +kernel
theorem dX3_by_57 : decode cX3_by 57 = .ok (.iand, 1) := by decide +kernel
theorem dX3_by_58 : decode cX3_by 58 = .ok (.istore_n 3, 1) := by decide +kernel
theorem dX3_by_59 : decode cX3_by 59 = .ok (.aload_n 0, 1) := by decide +kernel
theorem dX3_by_60 : decode cX3_by 60 = .ok (.getfield 10, 3) := by decide +kernel
theorem dX3_by_63 : decode cX3_by 63 = .ok (.aload_n 0, 1) := by decide +kernel
theorem dX3_by_64 : decode cX3_by 64 = .ok (.getfield 10, 3) := by decide +kernel
theorem dX3_by_67 : decode cX3_by 67 = .ok (.getfield 135, 3) := by decide +kernel
theorem dX3_by_70 : decode cX3_by 70 = .ok (.iload_n 3, 1) := by decide +kernel
theorem dX3_by_71 : decode cX3_by 71 = .ok (.iconst (-1), 1) := by decide +kernel
theorem dX3_by_72 : decode cX3_by 72 = .ok (.ixor, 1) := by decide +kernel
theorem dX3_by_73 : decode cX3_by 73 = .ok (.iand, 1) := by decide +kernel
theorem dX3_by_74 : decode cX3_by 74 = .ok (.invokevirtual 195, 3) := by decide +kernel
theorem dX3_by_77 : decode cX3_by 77 = .ok (.iload_n 2, 1) := by decide +kernel
theorem dX3_by_78 : decode cX3_by 78 = .ok (.invokestatic 230, 3) := by decide +kernel
theorem dX3_by_81 : decode cX3_by 81 = .ok (.ireturn, 1) := by decide +kernel
theorem dX3_mean_0 : decode cX3_mean 0 = .ok (.aload_n 0, 1) := by decide +kernel
theorem dX3_mean_1 : decode cX3_mean 1 = .ok (.getfield 10, 3) := by decide +kernel
theorem dX3_mean_4 : decode cX3_mean 4 = .ok (.aload_n 0, 1) := by decide +kernel
theorem dX3_mean_5 : decode cX3_mean 5 = .ok (.getfield 10, 3) := by decide +kernel
theorem dX3_mean_8 : decode cX3_mean 8 = .ok (.getfield 135, 3) := by decide +kernel
theorem dX3_mean_11 : decode cX3_mean 11 = .ok (.invokevirtual 195, 3) := by decide +kernel
theorem dX3_mean_14 : decode cX3_mean 14 = .ok (.istore_n 1, 1) := by decide +kernel
theorem dX3_mean_15 : decode cX3_mean 15 = .ok (.iload_n 1, 1) := by decide +kernel
theorem dX3_mean_16 : decode cX3_mean 16 = .ok (.ifCond .ne 10, 3) := by decide +kernel
theorem dX3_mean_19 : decode cX3_mean 19 = .ok (.aload_n 0, 1) := by decide +kernel
theorem dX3_mean_20 : decode cX3_mean 20 = .ok (.bipush (-5), 2) := by decide +kernel
theorem dX3_mean_22 : decode cX3_mean 22 = .ok (.invokevirtual 51, 3) := by decide +kernel
theorem dX3_mean_25 : decode cX3_mean 25 = .ok (.ireturn, 1) := by decide +kernel
theorem dX3_mean_26 : decode cX3_mean 26 = .ok (.iconst 0, 1) := by decide +kernel
theorem dX3_mean_27 : decode cX3_mean 27 = .ok (.istore_n 2, 1) := by decide +kernel
theorem dX3_mean_28 : decode cX3_mean 28 = .ok (.iconst 0, 1) := by decide +kernel
theorem dX3_mean_29 : decode cX3_mean 29 = .ok (.istore_n 3, 1) := by decide +kernel
theorem dX3_mean_30 : decode cX3_mean 30 = .ok (.iload_n 3, 1) := by decide +kernel
theorem dX3_mean_31 : decode cX3_mean 31 = .ok (.aload_n 0, 1) := by decide +kernel
theorem dX3_mean_32 : decode cX3_mean 32 = .ok (.getfield 10, 3) := by decide +kernel
theorem dX3_mean_35 : decode cX3_mean 35 = .ok (.getfield 117, 3) := by decide +kernel
theorem dX3_mean_38 : decode cX3_mean 38 = .ok (.if_icmp .ge 22, 3) := by decide +kernel
theorem dX3_mean_41 : decode cX3_mean 41 = .ok (.iload_n 2, 1) := by decide +kernel
theorem dX3_mean_42 : decode cX3_mean 42 = .ok (.iload_n 3, 1) := by decide +kernel
theorem dX3_mean_43 : decode cX3_mean 43 = .ok (.aload_n 0, 1) := by decide +kernel
theorem dX3_mean_44 : decode cX3_mean 44 = .ok (.getfield 10, 3) := by decide +kernel
theorem dX3_mean_47 : decode cX3_mean 47 = .ok (.iload_n 3, 1) := by decide +kernel
theorem dX3_mean_48 : decode cX3_mean 48 = .ok (.invokevirtual 233, 3) := by decide +kernel
theorem dX3_mean_51 : decode cX3_mean 51 = .ok (.imul, 1) := by decide +kernel
theorem dX3_mean_52 : decode cX3_mean 52 = .ok (.iadd, 1) := by decide +kernel
theorem dX3_mean_53 : decode cX3_mean 53 = .ok (.istore_n 2, 1) := by decide +kernel
theorem dX3_mean_54 : decode cX3_mean 54 = .ok (.iinc 3 1, 3) := by decide +kernel
theorem dX3_mean_57 : decode cX3_mean 57 = .ok (.goto (-27), 3) := by decide +kernel
theorem dX3_mean_60 : decode cX3_mean 60 = .ok (.sipush 1000, 3) := by decide +kernel
theorem dX3_mean_63 : decode cX3_mean 63 = .ok (.iload_n 2, 1) := by decide +kernel
theorem dX3_mean_64 : decode cX3_mean 64 = .ok (.imul, 1) := by decide +kernel
theorem dX3_mean_65 : decode cX3_mean 65 = .ok (.iload_n 1, 1) := by decide +kernel
theorem dX3_mean_66 : decode cX3_mean 66 = .ok (.idiv, 1) := by decide +kernel
theorem dX3_mean_67 : decode cX3_mean 67 = .ok (.ireturn, 1) := by decide +kernel
theorem dX3_gain_0 : decode cX3_gain 0 = .ok (.aload_n 0, 1) := by decide +kernel
theorem dX3_gain_1 : decode cX3_gain 1 = .ok (.getfield 10, 3) := by decide +kernel
theorem dX3_gain_4 : decode cX3_gain 4 = .ok (.iload_n 1, 1) := by decide +kernel
theorem dX3_gain_5 : decode cX3_gain 5 = .ok (.invokevirtual 129, 3) := by decide +kernel
theorem dX3_gain_8 : decode cX3_gain 8 = .ok (.ifCond .eq 10, 3) := by decide +kernel
theorem dX3_gain_11 : decode cX3_gain 11 = .ok (.iload_n 2, 1) := by decide +kernel
theorem dX3_gain_12 : decode cX3_gain 12 = .ok (.invokestatic 236, 3) := by decide +kernel
theorem dX3_gain_15 : decode cX3_gain 15 = .ok (.ifCond .ne 10, 3) := by decide +kernel
theorem dX3_gain_18 : decode cX3_gain 18 = .ok (.aload_n 0, 1) := by decide +kernel
theorem dX3_gain_19 : decode cX3_gain 19 = .ok (.bipush (-2), 2) := by decide +kernel
theorem dX3_gain_21 : decode cX3_gain 21 = .ok (.invokevirtual 239, 3) := by decide +kernel
theorem dX3_gain_24 : decode cX3_gain 24 = .ok (.ireturn, 1) := by decide +kernel
theorem dX3_gain_25 : decode cX3_gain 25 = .ok (.aload_n 0, 1) := by decide +kernel
theorem dX3_gain_26 : decode cX3_gain 26 = .ok (.getfield 10, 3) := by decide +kernel
theorem dX3_gain_29 : decode cX3_gain 29 = .ok (.aload_n 0, 1) := by decide +kernel
theorem dX3_gain_30 : decode cX3_gain 30 = .ok (.getfield 10, 3) := by decide +kernel
theorem dX3_gain_33 : decode cX3_gain 33 = .ok (.iload_n 1, 1) := by decide +kernel
theorem dX3_gain_34 : decode cX3_gain 34 = .ok (.invokevirtual 192, 3) := by decide +kernel
theorem dX3_gain_37 : decode cX3_gain 37 = .ok (.invokevirtual 195, 3) := by decide +kernel
theorem dX3_gain_40 : decode cX3_gain 40 = .ok (.istore_n 3, 1) := by decide +kernel
theorem dX3_gain_41 : decode cX3_gain 41 = .ok (.iload_n 3, 1) := by decide +kernel
theorem dX3_gain_42 : decode cX3_gain 42 = .ok (.ifCond .ne 12, 3) := by decide +kernel
theorem dX3_gain_45 : decode cX3_gain 45 = .ok (.aload_n 0, 1) := by decide +kernel
theorem dX3_gain_46 : decode cX3_gain 46 = .ok (.bipush (-5), 2) := by decide +kernel
theorem dX3_gain_48 : decode cX3_gain 48 = .ok (.invokevirtual 239, 3) := by decide +kernel
theorem dX3_gain_51 : decode cX3_gain 51 = .ok (.goto 16, 3) := by decide +kernel
theorem dX3_gain_54 : decode cX3_gain 54 = .ok (.aload_n 0, 1) := by decide +kernel
theorem dX3_gain_55 : decode cX3_gain 55 = .ok (.getfield 10, 3) := by decide +kernel
theorem dX3_gain_58 : decode cX3_gain 58 = .ok (.iload_n 1, 1) := by decide +kernel
theorem dX3_gain_59 : decode cX3_gain 59 = .ok (.invokevirtual 233, 3) := by decide +kernel
theorem dX3_gain_62 : decode cX3_gain 62 = .ok (.iload_n 2, 1) := by decide +kernel
theorem dX3_gain_63 : decode cX3_gain 63 = .ok (.iload_n 3, 1) := by decide +kernel
theorem dX3_gain_64 : decode cX3_gain 64 = .ok (.invokestatic 242, 3) := by decide +kernel
theorem dX3_gain_67 : decode cX3_gain 67 = .ok (.ireturn, 1) := by decide +kernel
theorem dX3_bet_0 : decode cX3_bet 0 = .ok (.iload_n 1, 1) := by decide +kernel
theorem dX3_bet_1 : decode cX3_bet 1 = .ok (.invokestatic 236, 3) := by decide +kernel
theorem dX3_bet_4 : decode cX3_bet 4 = .ok (.ifCond .ne 10, 3) := by decide +kernel
theorem dX3_bet_7 : decode cX3_bet 7 = .ok (.aload_n 0, 1) := by decide +kernel
theorem dX3_bet_8 : decode cX3_bet 8 = .ok (.bipush (-2), 2) := by decide +kernel
theorem dX3_bet_10 : decode cX3_bet 10 = .ok (.invokevirtual 51, 3) := by decide +kernel
theorem dX3_bet_13 : decode cX3_bet 13 = .ok (.ireturn, 1) := by decide +kernel
theorem dX3_bet_14 : decode cX3_bet 14 = .ok (.iconst 0, 1) := by decide +kernel
theorem dX3_bet_15 : decode cX3_bet 15 = .ok (.istore_n 2, 1) := by decide +kernel
theorem dX3_bet_16 : decode cX3_bet 16 = .ok (.iload_n 2, 1) := by decide +kernel
theorem dX3_bet_17 : decode cX3_bet 17 = .ok (.aload_n 0, 1) := by decide +kernel
theorem dX3_bet_18 : decode cX3_bet 18 = .ok (.getfield 10, 3) := by decide +kernel
theorem dX3_bet_21 : decode cX3_bet 21 = .ok (.getfield 117, 3) := by decide +kernel
theorem dX3_bet_24 : decode cX3_bet 24 = .ok (.if_icmp .ge 31, 3) := by decide +kernel
theorem dX3_bet_27 : decode cX3_bet 27 = .ok (.aload_n 0, 1) := by decide +kernel
theorem dX3_bet_28 : decode cX3_bet 28 = .ok (.getfield 10, 3) := by decide +kernel
theorem dX3_bet_31 : decode cX3_bet 31 = .ok (.iload_n 2, 1) := by decide +kernel
theorem dX3_bet_32 : decode cX3_bet 32 = .ok (.invokevirtual 132, 3) := by decide +kernel
theorem dX3_bet_35 : decode cX3_bet 35 = .ok (.ifCond .eq 14, 3) := by decide +kernel
theorem dX3_bet_38 : decode cX3_bet 38 = .ok (.aload_n 0, 1) := by decide +kernel
theorem dX3_bet_39 : decode cX3_bet 39 = .ok (.iload_n 2, 1) := by decide +kernel
theorem dX3_bet_40 : decode cX3_bet 40 = .ok (.iload_n 1, 1) := by decide +kernel
theorem dX3_bet_41 : decode cX3_bet 41 = .ok (.invokevirtual 246, 3) := by decide +kernel
theorem dX3_bet_44 : decode cX3_bet 44 = .ok (.ifCond .eq 5, 3) := by decide +kernel
theorem dX3_bet_47 : decode cX3_bet 47 = .ok (.iload_n 2, 1) := by decide +kernel
theorem dX3_bet_48 : decode cX3_bet 48 = .ok (.ireturn, 1) := by decide +kernel
theorem dX3_bet_49 : decode cX3_bet 49 = .ok (.iinc 2 1, 3) := by decide +kernel
theorem dX3_bet_52 : decode cX3_bet 52 = .ok (.goto (-36), 3) := by decide +kernel
theorem dX3_bet_55 : decode cX3_bet 55 = .ok (.iconst (-1), 1) := by decide +kernel
theorem dX3_bet_56 : decode cX3_bet 56 = .ok (.ireturn, 1) := by decide +kernel
theorem dX3_fair_0 : decode cX3_fair 0 = .ok (.aload_n 0, 1) := by decide +kernel
theorem dX3_fair_1 : decode cX3_fair 1 = .ok (.getfield 10, 3) := by decide +kernel
theorem dX3_fair_4 : decode cX3_fair 4 = .ok (.iload_n 1, 1) := by decide +kernel
theorem dX3_fair_5 : decode cX3_fair 5 = .ok (.invokevirtual 129, 3) := by decide +kernel
theorem dX3_fair_8 : decode cX3_fair 8 = .ok (.ifCond .ne 10, 3) := by decide +kernel
theorem dX3_fair_11 : decode cX3_fair 11 = .ok (.aload_n 0, 1) := by decide +kernel
theorem dX3_fair_12 : decode cX3_fair 12 = .ok (.bipush (-2), 2) := by decide +kernel
theorem dX3_fair_14 : decode cX3_fair 14 = .ok (.invokevirtual 51, 3) := by decide +kernel
theorem dX3_fair_17 : decode cX3_fair 17 = .ok (.ireturn, 1) := by decide +kernel
theorem dX3_fair_18 : decode cX3_fair 18 = .ok (.iconst 1, 1) := by decide +kernel
theorem dX3_fair_19 : decode cX3_fair 19 = .ok (.istore_n 2, 1) := by decide +kernel
theorem dX3_fair_20 : decode cX3_fair 20 = .ok (.iload_n 2, 1) := by decide +kernel
theorem dX3_fair_21 : decode cX3_fair 21 = .ok (.bipush 40, 2) := by decide +kernel
theorem dX3_fair_23 : decode cX3_fair 23 = .ok (.if_icmp .gt 20, 3) := by decide +kernel
theorem dX3_fair_26 : decode cX3_fair 26 = .ok (.aload_n 0, 1) := by decide +kernel
theorem dX3_fair_27 : decode cX3_fair 27 = .ok (.iload_n 1, 1) := by decide +kernel
theorem dX3_fair_28 : decode cX3_fair 28 = .ok (.iload_n 2, 1) := by decide +kernel
theorem dX3_fair_29 : decode cX3_fair 29 = .ok (.invokevirtual 246, 3) := by decide +kernel
theorem dX3_fair_32 : decode cX3_fair 32 = .ok (.ifCond .eq 5, 3) := by decide +kernel
theorem dX3_fair_35 : decode cX3_fair 35 = .ok (.iload_n 2, 1) := by decide +kernel
theorem dX3_fair_36 : decode cX3_fair 36 = .ok (.ireturn, 1) := by decide +kernel
theorem dX3_fair_37 : decode cX3_fair 37 = .ok (.iinc 2 1, 3) := by decide +kernel
theorem dX3_fair_40 : decode cX3_fair 40 = .ok (.goto (-20), 3) := by decide +kernel
theorem dX3_fair_43 : decode cX3_fair 43 = .ok (.iconst (-1), 1) := by decide +kernel
theorem dX3_fair_44 : decode cX3_fair 44 = .ok (.ireturn, 1) := by decide +kernel
theorem dX3_book_0 : decode cX3_book 0 = .ok (.iload_n 2, 1) := by decide +kernel
theorem dX3_book_1 : decode cX3_book 1 = .ok (.iconst 0, 1) := by decide +kernel
theorem dX3_book_2 : decode cX3_book 2 = .ok (.iconst 5, 1) := by decide +kernel
theorem dX3_book_3 : decode cX3_book 3 = .ok (.invokestatic 47, 3) := by decide +kernel
theorem dX3_book_6 : decode cX3_book 6 = .ok (.ifCond .ne 10, 3) := by decide +kernel
theorem dX3_book_9 : decode cX3_book 9 = .ok (.aload_n 0, 1) := by decide +kernel
theorem dX3_book_10 : decode cX3_book 10 = .ok (.bipush (-2), 2) := by decide +kernel
theorem dX3_book_12 : decode cX3_book 12 = .ok (.invokevirtual 239, 3) := by decide +kernel
theorem dX3_book_15 : decode cX3_book 15 = .ok (.ireturn, 1) := by decide +kernel
theorem dX3_book_16 : decode cX3_book 16 = .ok (.aload_n 0, 1) := by decide +kernel
theorem dX3_book_17 : decode cX3_book 17 = .ok (.iload_n 1, 1) := by decide +kernel
theorem dX3_book_18 : decode cX3_book 18 = .ok (.invokevirtual 59, 3) := by decide +kernel
theorem dX3_book_21 : decode cX3_book 21 = .ok (.istore_n 3, 1) := by decide +kernel
theorem dX3_book_22 : decode cX3_book 22 = .ok (.iload_n 3, 1) := by decide +kernel
theorem dX3_book_23 : decode cX3_book 23 = .ok (.ifCond .eq 9, 3) := by decide +kernel
theorem dX3_book_26 : decode cX3_book 26 = .ok (.aload_n 0, 1) := by decide +kernel
theorem dX3_book_27 : decode cX3_book 27 = .ok (.iload_n 3, 1) := by decide +kernel
theorem dX3_book_28 : decode cX3_book 28 = .ok (.invokevirtual 239, 3) := by decide +kernel
theorem dX3_book_31 : decode cX3_book 31 = .ok (.ireturn, 1) := by decide +kernel
theorem dX3_book_32 : decode cX3_book 32 = .ok (.aload_n 0, 1) := by decide +kernel
theorem dX3_book_33 : decode cX3_book 33 = .ok (.aload_n 0, 1) := by decide +kernel
theorem dX3_book_34 : decode cX3_book 34 = .ok (.getfield 31, 3) := by decide +kernel
theorem dX3_book_37 : decode cX3_book 37 = .ok (.iload_n 1, 1) := by decide +kernel
theorem dX3_book_38 : decode cX3_book 38 = .ok (.aaload, 1) := by decide +kernel
theorem dX3_book_39 : decode cX3_book 39 = .ok (.iload_n 2, 1) := by decide +kernel
theorem dX3_book_40 : decode cX3_book 40 = .ok (.invokevirtual 249, 3) := by decide +kernel
theorem dX3_book_43 : decode cX3_book 43 = .ok (.ifCond .ne 10, 3) := by decide +kernel
theorem dX3_book_46 : decode cX3_book 46 = .ok (.aload_n 0, 1) := by decide +kernel
theorem dX3_book_47 : decode cX3_book 47 = .ok (.bipush (-2), 2) := by decide +kernel
theorem dX3_book_49 : decode cX3_book 49 = .ok (.invokevirtual 239, 3) := by decide +kernel
theorem dX3_book_52 : decode cX3_book 52 = .ok (.ireturn, 1) := by decide +kernel
theorem dX3_book_53 : decode cX3_book 53 = .ok (.aload_n 0, 1) := by decide +kernel
theorem dX3_book_54 : decode cX3_book 54 = .ok (.getfield 10, 3) := by decide +kernel
theorem dX3_book_57 : decode cX3_book 57 = .ok (.aload_n 0, 1) := by decide +kernel
theorem dX3_book_58 : decode cX3_book 58 = .ok (.getfield 10, 3) := by decide +kernel
theorem dX3_book_61 : decode cX3_book 61 = .ok (.getfield 135, 3) := by decide +kernel
theorem dX3_book_64 : decode cX3_book 64 = .ok (.invokevirtual 195, 3) := by decide +kernel
theorem dX3_book_67 : decode cX3_book 67 = .ok (.istore 4, 2) := by decide +kernel
theorem dX3_book_69 : decode cX3_book 69 = .ok (.iload 4, 2) := by decide +kernel
theorem dX3_book_71 : decode cX3_book 71 = .ok (.ifCond .ne 10, 3) := by decide +kernel
theorem dX3_book_74 : decode cX3_book 74 = .ok (.aload_n 0, 1) := by decide +kernel
theorem dX3_book_75 : decode cX3_book 75 = .ok (.bipush (-5), 2) := by decide +kernel
theorem dX3_book_77 : decode cX3_book 77 = .ok (.invokevirtual 239, 3) := by decide +kernel
theorem dX3_book_80 : decode cX3_book 80 = .ok (.ireturn, 1) := by decide +kernel
theorem dX3_book_81 : decode cX3_book 81 = .ok (.iconst 0, 1) := by decide +kernel
theorem dX3_book_82 : decode cX3_book 82 = .ok (.istore 5, 2) := by decide +kernel
theorem dX3_book_84 : decode cX3_book 84 = .ok (.iconst 0, 1) := by decide +kernel
theorem dX3_book_85 : decode cX3_book 85 = .ok (.istore 6, 2) := by decide +kernel
theorem dX3_book_87 : decode cX3_book 87 = .ok (.iload 6, 2) := by decide +kernel
theorem dX3_book_89 : decode cX3_book 89 = .ok (.iload_n 2, 1) := by decide +kernel
theorem dX3_book_90 : decode cX3_book 90 = .ok (.if_icmp .ge 51, 3) := by decide +kernel
theorem dX3_book_93 : decode cX3_book 93 = .ok (.aload_n 0, 1) := by decide +kernel
theorem dX3_book_94 : decode cX3_book 94 = .ok (.getfield 31, 3) := by decide +kernel
theorem dX3_book_97 : decode cX3_book 97 = .ok (.iload_n 1, 1) := by decide +kernel
theorem dX3_book_98 : decode cX3_book 98 = .ok (.aaload, 1) := by decide +kernel
theorem dX3_book_99 : decode cX3_book 99 = .ok (.getfield 84, 3) := by decide +kernel
theorem dX3_book_102 : decode cX3_book 102 = .ok (.iload 6, 2) := by decide +kernel
theorem dX3_book_104 : decode cX3_book 104 = .ok (.laload, 1) := by decide +kernel
theorem dX3_book_105 : decode cX3_book 105 = .ok (.l2i, 1) := by decide +kernel
theorem dX3_book_106 : decode cX3_book 106 = .ok (.istore 7, 2) := by decide +kernel
theorem dX3_book_108 : decode cX3_book 108 = .ok (.iload 5, 2) := by decide +kernel
theorem dX3_book_110 : decode cX3_book 110 = .ok (.aload_n 0, 1) := by decide +kernel
theorem dX3_book_111 : decode cX3_book 111 = .ok (.getfield 10, 3) := by decide +kernel
theorem dX3_book_114 : decode cX3_book 114 = .ok (.iload 7, 2) := by decide +kernel
theorem dX3_book_116 : decode cX3_book 116 = .ok (.bipush 100, 2) := by decide +kernel
theorem dX3_book_118 : decode cX3_book 118 = .ok (.idiv, 1) := by decide +kernel
theorem dX3_book_119 : decode cX3_book 119 = .ok (.invokevirtual 233, 3) := by decide +kernel
theorem dX3_book_122 : decode cX3_book 122 = .ok (.iload 7, 2) := by decide +kernel
theorem dX3_book_124 : decode cX3_book 124 = .ok (.bipush 100, 2) := by decide +kernel
theorem dX3_book_126 : decode cX3_book 126 = .ok (.irem, 1) := by decide +kernel
theorem dX3_book_127 : decode cX3_book 127 = .ok (.iload 4, 2) := by decide +kernel
theorem dX3_book_129 : decode cX3_book 129 = .ok (.invokestatic 242, 3) := by decide +kernel
theorem dX3_book_132 : decode cX3_book 132 = .ok (.iadd, 1) := by decide +kernel
theorem dX3_book_133 : decode cX3_book 133 = .ok (.istore 5, 2) := by decide +kernel
theorem dX3_book_135 : decode cX3_book 135 = .ok (.iinc 6 1, 3) := by decide +kernel
theorem dX3_book_138 : decode cX3_book 138 = .ok (.goto (-51), 3) := by decide +kernel
theorem dX3_book_141 : decode cX3_book 141 = .ok (.iload 5, 2) := by decide +kernel
theorem dX3_book_143 : decode cX3_book 143 = .ok (.ireturn, 1) := by decide +kernel
theorem dX3_best_0 : decode cX3_best 0 = .ok (.iload_n 1, 1) := by decide +kernel
theorem dX3_best_1 : decode cX3_best 1 = .ok (.iconst 1, 1) := by decide +kernel
theorem dX3_best_2 : decode cX3_best 2 = .ok (.bipush 6, 2) := by decide +kernel
theorem dX3_best_4 : decode cX3_best 4 = .ok (.invokestatic 47, 3) := by decide +kernel
theorem dX3_best_7 : decode cX3_best 7 = .ok (.ifCond .eq 19, 3) := by decide +kernel
theorem dX3_best_10 : decode cX3_best 10 = .ok (.iload_n 2, 1) := by decide +kernel
theorem dX3_best_11 : decode cX3_best 11 = .ok (.iconst (-1), 1) := by decide +kernel
theorem dX3_best_12 : decode cX3_best 12 = .ok (.if_icmp .eq 21, 3) := by decide +kernel
theorem dX3_best_15 : decode cX3_best 15 = .ok (.aload_n 0, 1) := by decide +kernel
theorem dX3_best_16 : decode cX3_best 16 = .ok (.getfield 10, 3) := by decide +kernel
theorem dX3_best_19 : decode cX3_best 19 = .ok (.iload_n 2, 1) := by decide +kernel
theorem dX3_best_20 : decode cX3_best 20 = .ok (.invokevirtual 129, 3) := by decide +kernel
theorem dX3_best_23 : decode cX3_best 23 = .ok (.ifCond .ne 10, 3) := by decide +kernel
theorem dX3_best_26 : decode cX3_best 26 = .ok (.aload_n 0, 1) := by decide +kernel
theorem dX3_best_27 : decode cX3_best 27 = .ok (.bipush (-2), 2) := by decide +kernel
theorem dX3_best_29 : decode cX3_best 29 = .ok (.invokevirtual 51, 3) := by decide +kernel
theorem dX3_best_32 : decode cX3_best 32 = .ok (.ireturn, 1) := by decide +kernel
theorem dX3_best_33 : decode cX3_best 33 = .ok (.aload_n 0, 1) := by decide +kernel
theorem dX3_best_34 : decode cX3_best 34 = .ok (.getfield 10, 3) := by decide +kernel
theorem dX3_best_37 : decode cX3_best 37 = .ok (.getfield 135, 3) := by decide +kernel
theorem dX3_best_40 : decode cX3_best 40 = .ok (.ifCond .ne 10, 3) := by decide +kernel
theorem dX3_best_43 : decode cX3_best 43 = .ok (.aload_n 0, 1) := by decide +kernel
theorem dX3_best_44 : decode cX3_best 44 = .ok (.bipush (-5), 2) := by decide +kernel
theorem dX3_best_46 : decode cX3_best 46 = .ok (.invokevirtual 51, 3) := by decide +kernel
theorem dX3_best_49 : decode cX3_best 49 = .ok (.ireturn, 1) := by decide +kernel
theorem dX3_best_50 : decode cX3_best 50 = .ok (.aload_n 0, 1) := by decide +kernel
theorem dX3_best_51 : decode cX3_best 51 = .ok (.iload_n 1, 1) := by decide +kernel
theorem dX3_best_52 : decode cX3_best 52 = .ok (.invokevirtual 253, 3) := by decide +kernel
theorem dX3_best_55 : decode cX3_best 55 = .ok (.istore_n 3, 1) := by decide +kernel
theorem dX3_best_56 : decode cX3_best 56 = .ok (.iload_n 2, 1) := by decide +kernel
theorem dX3_best_57 : decode cX3_best 57 = .ok (.iconst (-1), 1) := by decide +kernel
theorem dX3_best_58 : decode cX3_best 58 = .ok (.if_icmp .ne 7, 3) := by decide +kernel
theorem dX3_best_61 : decode cX3_best 61 = .ok (.iload_n 3, 1) := by decide +kernel
theorem dX3_best_62 : decode cX3_best 62 = .ok (.goto 9, 3) := by decide +kernel
theorem dX3_best_65 : decode cX3_best 65 = .ok (.aload_n 0, 1) := by decide +kernel
theorem dX3_best_66 : decode cX3_best 66 = .ok (.getfield 39, 3) := by decide +kernel
theorem dX3_best_69 : decode cX3_best 69 = .ok (.iload_n 2, 1) := by decide +kernel
theorem dX3_best_70 : decode cX3_best 70 = .ok (.iaload, 1) := by decide +kernel
theorem dX3_best_71 : decode cX3_best 71 = .ok (.ireturn, 1) := by decide +kernel
theorem dX3_will_0 : decode cX3_will 0 = .ok (.aload_n 0, 1) := by decide +kernel
theorem dX3_will_1 : decode cX3_will 1 = .ok (.aload_n 0, 1) := by decide +kernel
theorem dX3_will_2 : decode cX3_will 2 = .ok (.getfield 10, 3) := by decide +kernel
theorem dX3_will_5 : decode cX3_will 5 = .ok (.invokevirtual 144, 3) := by decide +kernel
theorem dX3_will_8 : decode cX3_will 8 = .ok (.invokevirtual 256, 3) := by decide +kernel
theorem dX3_will_11 : decode cX3_will 11 = .ok (.ireturn, 1) := by decide +kernel
theorem dX3_level_0 : decode cX3_level 0 = .ok (.aload_n 0, 1) := by decide +kernel
theorem dX3_level_1 : decode cX3_level 1 = .ok (.getfield 10, 3) := by decide +kernel
theorem dX3_level_4 : decode cX3_level 4 = .ok (.iload_n 1, 1) := by decide +kernel
theorem dX3_level_5 : decode cX3_level 5 = .ok (.invokevirtual 129, 3) := by decide +kernel
theorem dX3_level_8 : decode cX3_level 8 = .ok (.ifCond .eq 13, 3) := by decide +kernel
theorem dX3_level_11 : decode cX3_level 11 = .ok (.aload_n 0, 1) := by decide +kernel
theorem dX3_level_12 : decode cX3_level 12 = .ok (.iconst 1, 1) := by decide +kernel
theorem dX3_level_13 : decode cX3_level 13 = .ok (.iload_n 1, 1) := by decide +kernel
theorem dX3_level_14 : decode cX3_level 14 = .ok (.ishl, 1) := by decide +kernel
theorem dX3_level_15 : decode cX3_level 15 = .ok (.invokevirtual 256, 3) := by decide +kernel
theorem dX3_level_18 : decode cX3_level 18 = .ok (.goto 9, 3) := by decide +kernel
theorem dX3_level_21 : decode cX3_level 21 = .ok (.aload_n 0, 1) := by decide +kernel
theorem dX3_level_22 : decode cX3_level 22 = .ok (.bipush (-2), 2) := by decide +kernel
theorem dX3_level_24 : decode cX3_level 24 = .ok (.invokevirtual 51, 3) := by decide +kernel
theorem dX3_level_27 : decode cX3_level 27 = .ok (.ireturn, 1) := by decide +kernel
theorem dX3_spoils_0 : decode cX3_spoils 0 = .ok (.aload_n 0, 1) := by decide +kernel
theorem dX3_spoils_1 : decode cX3_spoils 1 = .ok (.getfield 10, 3) := by decide +kernel
theorem dX3_spoils_4 : decode cX3_spoils 4 = .ok (.iload_n 1, 1) := by decide +kernel
theorem dX3_spoils_5 : decode cX3_spoils 5 = .ok (.invokevirtual 94, 3) := by decide +kernel
theorem dX3_spoils_8 : decode cX3_spoils 8 = .ok (.ifCond .eq 11, 3) := by decide +kernel
theorem dX3_spoils_11 : decode cX3_spoils 11 = .ok (.aload_n 0, 1) := by decide +kernel
theorem dX3_spoils_12 : decode cX3_spoils 12 = .ok (.iload_n 1, 1) := by decide +kernel
theorem dX3_spoils_13 : decode cX3_spoils 13 = .ok (.invokevirtual 259, 3) := by decide +kernel
theorem dX3_spoils_16 : decode cX3_spoils 16 = .ok (.goto 9, 3) := by decide +kernel
theorem dX3_spoils_19 : decode cX3_spoils 19 = .ok (.aload_n 0, 1) := by decide +kernel
theorem dX3_spoils_20 : decode cX3_spoils 20 = .ok (.bipush (-2), 2) := by decide +kernel
theorem dX3_spoils_22 : decode cX3_spoils 22 = .ok (.invokevirtual 239, 3) := by decide +kernel
theorem dX3_spoils_25 : decode cX3_spoils 25 = .ok (.ireturn, 1) := by decide +kernel
theorem dX3_spoiler_0 : decode cX3_spoiler 0 = .ok (.aload_n 0, 1) := by decide +kernel
theorem dX3_spoiler_1 : decode cX3_spoiler 1 = .ok (.getfield 10, 3) := by decide +kernel
theorem dX3_spoiler_4 : decode cX3_spoiler 4 = .ok (.getfield 123, 3) := by decide +kernel
theorem dX3_spoiler_7 : decode cX3_spoiler 7 = .ok (.ifCond .ne 10, 3) := by decide +kernel
theorem dX3_spoiler_10 : decode cX3_spoiler 10 = .ok (.aload_n 0, 1) := by decide +kernel
theorem dX3_spoiler_11 : decode cX3_spoiler 11 = .ok (.bipush (-5), 2) := by decide +kernel
theorem dX3_spoiler_13 : decode cX3_spoiler 13 = .ok (.invokevirtual 51, 3) := by decide +kernel
theorem dX3_spoiler_16 : decode cX3_spoiler 16 = .ok (.ireturn, 1) := by decide +kernel
theorem dX3_spoiler_17 : decode cX3_spoiler 17 = .ok (.iconst 0, 1) := by decide +kernel
theorem dX3_spoiler_18 : decode cX3_spoiler 18 = .ok (.istore_n 1, 1) := by decide +kernel
theorem dX3_spoiler_19 : decode cX3_spoiler 19 = .ok (.aload_n 0, 1) := by decide +kernel
theorem dX3_spoiler_20 : decode cX3_spoiler 20 = .ok (.iconst 0, 1) := by decide +kernel
theorem dX3_spoiler_21 : decode cX3_spoiler 21 = .ok (.invokevirtual 259, 3) := by decide +kernel
theorem dX3_spoiler_24 : decode cX3_spoiler 24 = .ok (.istore_n 2, 1) := by decide +kernel
theorem dX3_spoiler_25 : decode cX3_spoiler 25 = .ok (.iconst 1, 1) := by decide +kernel
theorem dX3_spoiler_26 : decode cX3_spoiler 26 = .ok (.istore_n 3, 1) := by decide +kernel
theorem dX3_spoiler_27 : decode cX3_spoiler 27 = .ok (.iload_n 3, 1) := by decide +kernel
theorem dX3_spoiler_28 : decode cX3_spoiler 28 = .ok (.aload_n 0, 1) := by decide +kernel
theorem dX3_spoiler_29 : decode cX3_spoiler 29 = .ok (.getfield 10, 3) := by decide +kernel
theorem dX3_spoiler_32 : decode cX3_spoiler 32 = .ok (.getfield 123, 3) := by decide +kernel
theorem dX3_spoiler_35 : decode cX3_spoiler 35 = .ok (.if_icmp .ge 27, 3) := by decide +kernel
theorem dX3_spoiler_38 : decode cX3_spoiler 38 = .ok (.aload_n 0, 1) := by decide +kernel
theorem dX3_spoiler_39 : decode cX3_spoiler 39 = .ok (.iload_n 3, 1) := by decide +kernel
theorem dX3_spoiler_40 : decode cX3_spoiler 40 = .ok (.invokevirtual 259, 3) := by decide +kernel
theorem dX3_spoiler_43 : decode cX3_spoiler 43 = .ok (.istore 4, 2) := by decide +kernel
theorem dX3_spoiler_45 : decode cX3_spoiler 45 = .ok (.iload 4, 2) := by decide +kernel
theorem dX3_spoiler_47 : decode cX3_spoiler 47 = .ok (.iload_n 2, 1) := by decide +kernel
theorem dX3_spoiler_48 : decode cX3_spoiler 48 = .ok (.if_icmp .le 8, 3) := by decide +kernel
theorem dX3_spoiler_51 : decode cX3_spoiler 51 = .ok (.iload 4, 2) := by decide +kernel
theorem dX3_spoiler_53 : decode cX3_spoiler 53 = .ok (.istore_n 2, 1) := by decide +kernel
theorem dX3_spoiler_54 : decode cX3_spoiler 54 = .ok (.iload_n 3, 1) := by decide +kernel
theorem dX3_spoiler_55 : decode cX3_spoiler 55 = .ok (.istore_n 1, 1) := by decide +kernel
theorem dX3_spoiler_56 : decode cX3_spoiler 56 = .ok (.iinc 3 1, 3) := by decide +kernel
theorem dX3_spoiler_59 : decode cX3_spoiler 59 = .ok (.goto (-32), 3) := by decide +kernel
theorem dX3_spoiler_62 : decode cX3_spoiler 62 = .ok (.iload_n 1, 1) := by decide +kernel
theorem dX3_spoiler_63 : decode cX3_spoiler 63 = .ok (.ireturn, 1) := by decide +kernel
theorem dX3_deeper_0 : decode cX3_deeper 0 = .ok (.aload_n 0, 1) := by decide +kernel
theorem dX3_deeper_1 : decode cX3_deeper 1 = .ok (.getfield 10, 3) := by decide +kernel
theorem dX3_deeper_4 : decode cX3_deeper 4 = .ok (.iload_n 1, 1) := by decide +kernel
theorem dX3_deeper_5 : decode cX3_deeper 5 = .ok (.invokevirtual 94, 3) := by decide +kernel
theorem dX3_deeper_8 : decode cX3_deeper 8 = .ok (.ifCond .eq 14, 3) := by decide +kernel
theorem dX3_deeper_11 : decode cX3_deeper 11 = .ok (.aload_n 0, 1) := by decide +kernel
theorem dX3_deeper_12 : decode cX3_deeper 12 = .ok (.getfield 10, 3) := by decide +kernel
theorem dX3_deeper_15 : decode cX3_deeper 15 = .ok (.iload_n 2, 1) := by decide +kernel
theorem dX3_deeper_16 : decode cX3_deeper 16 = .ok (.invokevirtual 129, 3) := by decide +kernel
theorem dX3_deeper_19 : decode cX3_deeper 19 = .ok (.ifCond .ne 10, 3) := by decide +kernel
theorem dX3_deeper_22 : decode cX3_deeper 22 = .ok (.aload_n 0, 1) := by decide +kernel
theorem dX3_deeper_23 : decode cX3_deeper 23 = .ok (.bipush (-2), 2) := by decide +kernel
theorem dX3_deeper_25 : decode cX3_deeper 25 = .ok (.invokevirtual 51, 3) := by decide +kernel
theorem dX3_deeper_28 : decode cX3_deeper 28 = .ok (.ireturn, 1) := by decide +kernel
theorem dX3_deeper_29 : decode cX3_deeper 29 = .ok (.aload_n 0, 1) := by decide +kernel
theorem dX3_deeper_30 : decode cX3_deeper 30 = .ok (.getfield 16, 3) := by decide +kernel
theorem dX3_deeper_33 : decode cX3_deeper 33 = .ok (.aload_n 0, 1) := by decide +kernel
theorem dX3_deeper_34 : decode cX3_deeper 34 = .ok (.getfield 10, 3) := by decide +kernel
theorem dX3_deeper_37 : decode cX3_deeper 37 = .ok (.invokevirtual 165, 3) := by decide +kernel
theorem dX3_deeper_40 : decode cX3_deeper 40 = .ok (.iconst 0, 1) := by decide +kernel
theorem dX3_deeper_41 : decode cX3_deeper 41 = .ok (.istore_n 3, 1) := by decide +kernel
theorem dX3_deeper_42 : decode cX3_deeper 42 = .ok (.iload_n 3, 1) := by decide +kernel
theorem dX3_deeper_43 : decode cX3_deeper 43 = .ok (.bipush 9, 2) := by decide +kernel
theorem dX3_deeper_45 : decode cX3_deeper 45 = .ok (.if_icmp .gt 36, 3) := by decide +kernel
theorem dX3_deeper_48 : decode cX3_deeper 48 = .ok (.aload_n 0, 1) := by decide +kernel
theorem dX3_deeper_49 : decode cX3_deeper 49 = .ok (.getfield 16, 3) := by decide +kernel
theorem dX3_deeper_52 : decode cX3_deeper 52 = .ok (.getfield 153, 3) := by decide +kernel
theorem dX3_deeper_55 : decode cX3_deeper 55 = .ok (.iload_n 1, 1) := by decide +kernel
theorem dX3_deeper_56 : decode cX3_deeper 56 = .ok (.iload_n 3, 1) := by decide +kernel
theorem dX3_deeper_57 : decode cX3_deeper 57 = .ok (.iastore, 1) := by decide +kernel
theorem dX3_deeper_58 : decode cX3_deeper 58 = .ok (.aload_n 0, 1) := by decide +kernel
theorem dX3_deeper_59 : decode cX3_deeper 59 = .ok (.getfield 16, 3) := by decide +kernel
theorem dX3_deeper_62 : decode cX3_deeper 62 = .ok (.iload_n 1, 1) := by decide +kernel
theorem dX3_deeper_63 : decode cX3_deeper 63 = .ok (.invokevirtual 189, 3) := by decide +kernel
theorem dX3_deeper_66 : decode cX3_deeper 66 = .ok (.iload_n 2, 1) := by decide +kernel
theorem dX3_deeper_67 : decode cX3_deeper 67 = .ok (.invokestatic 201, 3) := by decide +kernel
theorem dX3_deeper_70 : decode cX3_deeper 70 = .ok (.ifCond .eq 5, 3) := by decide +kernel
theorem dX3_deeper_73 : decode cX3_deeper 73 = .ok (.iload_n 3, 1) := by decide +kernel
theorem dX3_deeper_74 : decode cX3_deeper 74 = .ok (.ireturn, 1) := by decide +kernel
theorem dX3_deeper_75 : decode cX3_deeper 75 = .ok (.iinc 3 1, 3) := by decide +kernel
theorem dX3_deeper_78 : decode cX3_deeper 78 = .ok (.goto (-36), 3) := by decide +kernel
theorem dX3_deeper_81 : decode cX3_deeper 81 = .ok (.iconst (-1), 1) := by decide +kernel
theorem dX3_deeper_82 : decode cX3_deeper 82 = .ok (.ireturn, 1) := by decide +kernel
theorem dX3_crowd_0 : decode cX3_crowd 0 = .ok (.iload_n 1, 1) := by decide +kernel
theorem dX3_crowd_1 : decode cX3_crowd 1 = .ok (.invokestatic 104, 3) := by decide +kernel
theorem dX3_crowd_4 : decode cX3_crowd 4 = .ok (.ifCond .ne 10, 3) := by decide +kernel
theorem dX3_crowd_7 : decode cX3_crowd 7 = .ok (.aload_n 0, 1) := by decide +kernel
theorem dX3_crowd_8 : decode cX3_crowd 8 = .ok (.bipush (-2), 2) := by decide +kernel
theorem dX3_crowd_10 : decode cX3_crowd 10 = .ok (.invokevirtual 51, 3) := by decide +kernel
theorem dX3_crowd_13 : decode cX3_crowd 13 = .ok (.ireturn, 1) := by decide +kernel
theorem dX3_crowd_14 : decode cX3_crowd 14 = .ok (.aload_n 0, 1) := by decide +kernel
theorem dX3_crowd_15 : decode cX3_crowd 15 = .ok (.getfield 16, 3) := by decide +kernel
theorem dX3_crowd_18 : decode cX3_crowd 18 = .ok (.aload_n 0, 1) := by decide +kernel
theorem dX3_crowd_19 : decode cX3_crowd 19 = .ok (.getfield 10, 3) := by decide +kernel
theorem dX3_crowd_22 : decode cX3_crowd 22 = .ok (.invokevirtual 165, 3) := by decide +kernel
theorem dX3_crowd_25 : decode cX3_crowd 25 = .ok (.iconst 0, 1) := by decide +kernel
theorem dX3_crowd_26 : decode cX3_crowd 26 = .ok (.istore_n 2, 1) := by decide +kernel
theorem dX3_crowd_27 : decode cX3_crowd 27 = .ok (.iload_n 2, 1) := by decide +kernel
theorem dX3_crowd_28 : decode cX3_crowd 28 = .ok (.aload_n 0, 1) := by decide +kernel
theorem dX3_crowd_29 : decode cX3_crowd 29 = .ok (.getfield 16, 3) := by decide +kernel
theorem dX3_crowd_32 : decode cX3_crowd 32 = .ok (.getfield 123, 3) := by decide +kernel
theorem dX3_crowd_35 : decode cX3_crowd 35 = .ok (.if_icmp .ge 19, 3) := by decide +kernel
theorem dX3_crowd_38 : decode cX3_crowd 38 = .ok (.aload_n 0, 1) := by decide +kernel
theorem dX3_crowd_39 : decode cX3_crowd 39 = .ok (.getfield 16, 3) := by decide +kernel
theorem dX3_crowd_42 : decode cX3_crowd 42 = .ok (.getfield 107, 3) := by decide +kernel
theorem dX3_crowd_45 : decode cX3_crowd 45 = .ok (.iload_n 2, 1) := by decide +kernel
theorem dX3_crowd_46 : decode cX3_crowd 46 = .ok (.iload_n 1, 1) := by decide +kernel
theorem dX3_crowd_47 : decode cX3_crowd 47 = .ok (.iastore, 1) := by decide +kernel
theorem dX3_crowd_48 : decode cX3_crowd 48 = .ok (.iinc 2 1, 3) := by decide +kernel
theorem dX3_crowd_51 : decode cX3_crowd 51 = .ok (.goto (-24), 3) := by decide +kernel
theorem dX3_crowd_54 : decode cX3_crowd 54 = .ok (.aload_n 0, 1) := by decide +kernel
theorem dX3_crowd_55 : decode cX3_crowd 55 = .ok (.getfield 16, 3) := by decide +kernel
theorem dX3_crowd_58 : decode cX3_crowd 58 = .ok (.invokevirtual 219, 3) := by decide +kernel
theorem dX3_crowd_61 : decode cX3_crowd 61 = .ok (.ireturn, 1) := by decide +kernel
theorem dX3_second_0 : decode cX3_second 0 = .ok (.aload_n 0, 1) := by decide +kernel
theorem dX3_second_1 : decode cX3_second 1 = .ok (.getfield 10, 3) := by decide +kernel
theorem dX3_second_4 : decode cX3_second 4 = .ok (.iload_n 1, 1) := by decide +kernel
theorem dX3_second_5 : decode cX3_second 5 = .ok (.invokevirtual 129, 3) := by decide +kernel
theorem dX3_second_8 : decode cX3_second 8 = .ok (.ifCond .eq 13, 3) := by decide +kernel
theorem dX3_second_11 : decode cX3_second 11 = .ok (.iload_n 2, 1) := by decide +kernel
theorem dX3_second_12 : decode cX3_second 12 = .ok (.iconst 0, 1) := by decide +kernel
theorem dX3_second_13 : decode cX3_second 13 = .ok (.bipush 8, 2) := by decide +kernel
theorem dX3_second_15 : decode cX3_second 15 = .ok (.invokestatic 47, 3) := by decide +kernel
theorem dX3_second_18 : decode cX3_second 18 = .ok (.ifCond .ne 10, 3) := by decide +kernel
theorem dX3_second_21 : decode cX3_second 21 = .ok (.aload_n 0, 1) := by decide +kernel
theorem dX3_second_22 : decode cX3_second 22 = .ok (.bipush (-2), 2) := by decide +kernel
theorem dX3_second_24 : decode cX3_second 24 = .ok (.invokevirtual 51, 3) := by decide +kernel
theorem dX3_second_27 : decode cX3_second 27 = .ok (.ireturn, 1) := by decide +kernel
theorem dX3_second_28 : decode cX3_second 28 = .ok (.iconst 0, 1) := by decide +kernel
theorem dX3_second_29 : decode cX3_second 29 = .ok (.istore_n 3, 1) := by decide +kernel
theorem dX3_second_30 : decode cX3_second 30 = .ok (.iconst 0, 1) := by decide +kernel
theorem dX3_second_31 : decode cX3_second 31 = .ok (.istore 4, 2) := by decide +kernel
theorem dX3_second_33 : decode cX3_second 33 = .ok (.iload 4, 2) := by decide +kernel
theorem dX3_second_35 : decode cX3_second 35 = .ok (.aload_n 0, 1) := by decide +kernel
theorem dX3_second_36 : decode cX3_second 36 = .ok (.getfield 10, 3) := by decide +kernel
theorem dX3_second_39 : decode cX3_second 39 = .ok (.getfield 117, 3) := by decide +kernel
theorem dX3_second_42 : decode cX3_second 42 = .ok (.if_icmp .ge 36, 3) := by decide +kernel
theorem dX3_second_45 : decode cX3_second 45 = .ok (.aload_n 0, 1) := by decide +kernel
theorem dX3_second_46 : decode cX3_second 46 = .ok (.getfield 10, 3) := by decide +kernel
theorem dX3_second_49 : decode cX3_second 49 = .ok (.iload 4, 2) := by decide +kernel
theorem dX3_second_51 : decode cX3_second 51 = .ok (.invokevirtual 132, 3) := by decide +kernel
theorem dX3_second_54 : decode cX3_second 54 = .ok (.ifCond .eq 18, 3) := by decide +kernel
theorem dX3_second_57 : decode cX3_second 57 = .ok (.iload 4, 2) := by decide +kernel
theorem dX3_second_59 : decode cX3_second 59 = .ok (.iload_n 1, 1) := by decide +kernel
theorem dX3_second_60 : decode cX3_second 60 = .ok (.iload_n 2, 1) := by decide +kernel
theorem dX3_second_61 : decode cX3_second 61 = .ok (.isub, 1) := by decide +kernel
theorem dX3_second_62 : decode cX3_second 62 = .ok (.if_icmp .le 10, 3) := by decide +kernel
theorem dX3_second_65 : decode cX3_second 65 = .ok (.iload_n 3, 1) := by decide +kernel
theorem dX3_second_66 : decode cX3_second 66 = .ok (.iconst 1, 1) := by decide +kernel
theorem dX3_second_67 : decode cX3_second 67 = .ok (.iload 4, 2) := by decide +kernel
theorem dX3_second_69 : decode cX3_second 69 = .ok (.ishl, 1) := by decide +kernel
theorem dX3_second_70 : decode cX3_second 70 = .ok (.ior, 1) := by decide +kernel
theorem dX3_second_71 : decode cX3_second 71 = .ok (.istore_n 3, 1) := by decide +kernel
theorem dX3_second_72 : decode cX3_second 72 = .ok (.iinc 4 1, 3) := by decide +kernel
theorem dX3_second_75 : decode cX3_second 75 = .ok (.goto (-42), 3) := by decide +kernel
theorem dX3_second_78 : decode cX3_second 78 = .ok (.iload_n 3, 1) := by decide +kernel
theorem dX3_second_79 : decode cX3_second 79 = .ok (.ireturn, 1) := by decide +kernel
theorem dX3_hints_0 : decode cX3_hints 0 = .ok (.iload_n 1, 1) := by decide +kernel
theorem dX3_hints_1 : decode cX3_hints 1 = .ok (.iconst 0, 1) := by decide +kernel
theorem dX3_hints_2 : decode cX3_hints 2 = .ok (.iconst 1, 1) := by decide +kernel
theorem dX3_hints_3 : decode cX3_hints 3 = .ok (.invokestatic 47, 3) := by decide +kernel
theorem dX3_hints_6 : decode cX3_hints 6 = .ok (.ifCond .ne 10, 3) := by decide +kernel
theorem dX3_hints_9 : decode cX3_hints 9 = .ok (.aload_n 0, 1) := by decide +kernel
theorem dX3_hints_10 : decode cX3_hints 10 = .ok (.bipush (-2), 2) := by decide +kernel
theorem dX3_hints_12 : decode cX3_hints 12 = .ok (.invokevirtual 51, 3) := by decide +kernel
theorem dX3_hints_15 : decode cX3_hints 15 = .ok (.ireturn, 1) := by decide +kernel
theorem dX3_hints_16 : decode cX3_hints 16 = .ok (.aload_n 0, 1) := by decide +kernel
theorem dX3_hints_17 : decode cX3_hints 17 = .ok (.invokevirtual 262, 3) := by decide +kernel
theorem dX3_hints_20 : decode cX3_hints 20 = .ok (.istore_n 2, 1) := by decide +kernel
theorem dX3_hints_21 : decode cX3_hints 21 = .ok (.iload_n 1, 1) := by decide +kernel
theorem dX3_hints_22 : decode cX3_hints 22 = .ok (.ifCond .ne 7, 3) := by decide +kernel
theorem dX3_hints_25 : decode cX3_hints 25 = .ok (.iload_n 2, 1) := by decide +kernel
theorem dX3_hints_26 : decode cX3_hints 26 = .ok (.goto 8, 3) := by decide +kernel
theorem dX3_hints_29 : decode cX3_hints 29 = .ok (.aload_n 0, 1) := by decide +kernel
theorem dX3_hints_30 : decode cX3_hints 30 = .ok (.iload_n 2, 1) := by decide +kernel
theorem dX3_hints_31 : decode cX3_hints 31 = .ok (.invokevirtual 265, 3) := by decide +kernel
theorem dX3_hints_34 : decode cX3_hints 34 = .ok (.ireturn, 1) := by decide +kernel
theorem dX3_rules_0 : decode cX3_rules 0 = .ok (.iload_n 2, 1) := by decide +kernel
theorem dX3_rules_1 : decode cX3_rules 1 = .ok (.iconst 1, 1) := by decide +kernel
theorem dX3_rules_2 : decode cX3_rules 2 = .ok (.bipush 40, 2) := by decide +kernel
theorem dX3_rules_4 : decode cX3_rules 4 = .ok (.invokestatic 47, 3) := by decide +kernel
theorem dX3_rules_7 : decode cX3_rules 7 = .ok (.ifCond .eq 12, 3) := by decide +kernel
theorem dX3_rules_10 : decode cX3_rules 10 = .ok (.iload_n 3, 1) := by decide +kernel
theorem dX3_rules_11 : decode cX3_rules 11 = .ok (.iconst 0, 1) := by decide +kernel
theorem dX3_rules_12 : decode cX3_rules 12 = .ok (.iconst 1, 1) := by decide +kernel
theorem dX3_rules_13 : decode cX3_rules 13 = .ok (.invokestatic 47, 3) := by decide +kernel
theorem dX3_rules_16 : decode cX3_rules 16 = .ok (.ifCond .ne 10, 3) := by decide +kernel
theorem dX3_rules_19 : decode cX3_rules 19 = .ok (.aload_n 0, 1) := by decide +kernel
theorem dX3_rules_20 : decode cX3_rules 20 = .ok (.bipush (-2), 2) := by decide +kernel
theorem dX3_rules_22 : decode cX3_rules 22 = .ok (.invokevirtual 51, 3) := by decide +kernel
theorem dX3_rules_25 : decode cX3_rules 25 = .ok (.ireturn, 1) := by decide +kernel
theorem dX3_rules_26 : decode cX3_rules 26 = .ok (.aload_n 0, 1) := by decide +kernel
theorem dX3_rules_27 : decode cX3_rules 27 = .ok (.iload_n 1, 1) := by decide +kernel
theorem dX3_rules_28 : decode cX3_rules 28 = .ok (.invokevirtual 59, 3) := by decide +kernel
theorem dX3_rules_31 : decode cX3_rules 31 = .ok (.istore 4, 2) := by decide +kernel
theorem dX3_rules_33 : decode cX3_rules 33 = .ok (.iload 4, 2) := by decide +kernel
theorem dX3_rules_35 : decode cX3_rules 35 = .ok (.ifCond .eq 10, 3) := by decide +kernel
theorem dX3_rules_38 : decode cX3_rules 38 = .ok (.aload_n 0, 1) := by decide +kernel
theorem dX3_rules_39 : decode cX3_rules 39 = .ok (.iload 4, 2) := by decide +kernel
theorem dX3_rules_41 : decode cX3_rules 41 = .ok (.invokevirtual 51, 3) := by decide +kernel
theorem dX3_rules_44 : decode cX3_rules 44 = .ok (.ireturn, 1) := by decide +kernel
theorem dX3_rules_45 : decode cX3_rules 45 = .ok (.aload_n 0, 1) := by decide +kernel
theorem dX3_rules_46 : decode cX3_rules 46 = .ok (.aload_n 0, 1) := by decide +kernel
theorem dX3_rules_47 : decode cX3_rules 47 = .ok (.getfield 31, 3) := by decide +kernel
theorem dX3_rules_50 : decode cX3_rules 50 = .ok (.iload_n 1, 1) := by decide +kernel
theorem dX3_rules_51 : decode cX3_rules 51 = .ok (.aaload, 1) := by decide +kernel
theorem dX3_rules_52 : decode cX3_rules 52 = .ok (.iload_n 2, 1) := by decide +kernel
theorem dX3_rules_53 : decode cX3_rules 53 = .ok (.invokevirtual 268, 3) := by decide +kernel
theorem dX3_rules_56 : decode cX3_rules 56 = .ok (.ifCond .ne 10, 3) := by decide +kernel
theorem dX3_rules_59 : decode cX3_rules 59 = .ok (.aload_n 0, 1) := by decide +kernel
theorem dX3_rules_60 : decode cX3_rules 60 = .ok (.bipush (-2), 2) := by decide +kernel
theorem dX3_rules_62 : decode cX3_rules 62 = .ok (.invokevirtual 51, 3) := by decide +kernel
theorem dX3_rules_65 : decode cX3_rules 65 = .ok (.ireturn, 1) := by decide +kernel
theorem dX3_rules_66 : decode cX3_rules 66 = .ok (.iconst 0, 1) := by decide +kernel
theorem dX3_rules_67 : decode cX3_rules 67 = .ok (.istore 5, 2) := by decide +kernel
theorem dX3_rules_69 : decode cX3_rules 69 = .ok (.iconst 0, 1) := by decide +kernel
theorem dX3_rules_70 : decode cX3_rules 70 = .ok (.istore 6, 2) := by decide +kernel
theorem dX3_rules_72 : decode cX3_rules 72 = .ok (.iconst 0, 1) := by decide +kernel
theorem dX3_rules_73 : decode cX3_rules 73 = .ok (.istore 7, 2) := by decide +kernel
theorem dX3_rules_75 : decode cX3_rules 75 = .ok (.iload 7, 2) := by decide +kernel
theorem dX3_rules_77 : decode cX3_rules 77 = .ok (.aload_n 0, 1) := by decide +kernel
theorem dX3_rules_78 : decode cX3_rules 78 = .ok (.getfield 10, 3) := by decide +kernel
theorem dX3_rules_81 : decode cX3_rules 81 = .ok (.getfield 117, 3) := by decide +kernel
theorem dX3_rules_84 : decode cX3_rules 84 = .ok (.if_icmp .ge 70, 3) := by decide +kernel
theorem dX3_rules_87 : decode cX3_rules 87 = .ok (.iconst 0, 1) := by decide +kernel
theorem dX3_rules_88 : decode cX3_rules 88 = .ok (.istore 8, 2) := by decide +kernel
theorem dX3_rules_90 : decode cX3_rules 90 = .ok (.iload 8, 2) := by decide +kernel
theorem dX3_rules_92 : decode cX3_rules 92 = .ok (.aload_n 0, 1) := by decide +kernel
theorem dX3_rules_93 : decode cX3_rules 93 = .ok (.getfield 10, 3) := by decide +kernel
theorem dX3_rules_96 : decode cX3_rules 96 = .ok (.getfield 117, 3) := by decide +kernel
theorem dX3_rules_99 : decode cX3_rules 99 = .ok (.if_icmp .ge 49, 3) := by decide +kernel
theorem dX3_rules_102 : decode cX3_rules 102 = .ok (.aload_n 0, 1) := by decide +kernel
theorem dX3_rules_103 : decode cX3_rules 103 = .ok (.aload_n 0, 1) := by decide +kernel
theorem dX3_rules_104 : decode cX3_rules 104 = .ok (.getfield 31, 3) := by decide +kernel
theorem dX3_rules_107 : decode cX3_rules 107 = .ok (.iload_n 1, 1) := by decide +kernel
theorem dX3_rules_108 : decode cX3_rules 108 = .ok (.aaload, 1) := by decide +kernel
theorem dX3_rules_109 : decode cX3_rules 109 = .ok (.iload_n 2, 1) := by decide +kernel
theorem dX3_rules_110 : decode cX3_rules 110 = .ok (.iload 7, 2) := by decide +kernel
theorem dX3_rules_112 : decode cX3_rules 112 = .ok (.iload 8, 2) := by decide +kernel
theorem dX3_rules_114 : decode cX3_rules 114 = .ok (.invokevirtual 271, 3) := by decide +kernel
theorem dX3_rules_117 : decode cX3_rules 117 = .ok (.ifCond .eq 25, 3) := by decide +kernel
theorem dX3_rules_120 : decode cX3_rules 120 = .ok (.iinc 5 1, 3) := by decide +kernel
theorem dX3_rules_123 : decode cX3_rules 123 = .ok (.iload 6, 2) := by decide +kernel
theorem dX3_rules_125 : decode cX3_rules 125 = .ok (.iconst 1, 1) := by decide +kernel
theorem dX3_rules_126 : decode cX3_rules 126 = .ok (.aload_n 0, 1) := by decide +kernel
theorem dX3_rules_127 : decode cX3_rules 127 = .ok (.getfield 10, 3) := by decide +kernel
theorem dX3_rules_130 : decode cX3_rules 130 = .ok (.iload 7, 2) := by decide +kernel
theorem dX3_rules_132 : decode cX3_rules 132 = .ok (.iload 8, 2) := by decide +kernel
theorem dX3_rules_134 : decode cX3_rules 134 = .ok (.iload_n 2, 1) := by decide +kernel
theorem dX3_rules_135 : decode cX3_rules 135 = .ok (.invokevirtual 275, 3) := by decide +kernel
theorem dX3_rules_138 : decode cX3_rules 138 = .ok (.ishl, 1) := by decide +kernel
theorem dX3_rules_139 : decode cX3_rules 139 = .ok (.ior, 1) := by decide +kernel
theorem dX3_rules_140 : decode cX3_rules 140 = .ok (.istore 6, 2) := by decide +kernel
theorem dX3_rules_142 : decode cX3_rules 142 = .ok (.iinc 8 1, 3) := by decide +kernel
theorem dX3_rules_145 : decode cX3_rules 145 = .ok (.goto (-55), 3) := by decide +kernel
theorem dX3_rules_148 : decode cX3_rules 148 = .ok (.iinc 7 1, 3) := by decide +kernel
theorem dX3_rules_151 : decode cX3_rules 151 = .ok (.goto (-76), 3) := by decide +kernel
theorem dX3_rules_154 : decode cX3_rules 154 = .ok (.iload_n 3, 1) := by decide +kernel
theorem dX3_rules_155 : decode cX3_rules 155 = .ok (.ifCond .ne 8, 3) := by decide +kernel
theorem dX3_rules_158 : decode cX3_rules 158 = .ok (.iload 5, 2) := by decide +kernel
theorem dX3_rules_160 : decode cX3_rules 160 = .ok (.goto 5, 3) := by decide +kernel
theorem dX3_rules_163 : decode cX3_rules 163 = .ok (.iload 6, 2) := by decide +kernel
theorem dX3_rules_165 : decode cX3_rules 165 = .ok (.ireturn, 1) := by decide +kernel
theorem dX3_judge_0 : decode cX3_judge 0 = .ok (.aload_n 0, 1) := by decide +kernel
theorem dX3_judge_1 : decode cX3_judge 1 = .ok (.iload_n 1, 1) := by decide +kernel
theorem dX3_judge_2 : decode cX3_judge 2 = .ok (.invokevirtual 278, 3) := by decide +kernel
theorem dX3_judge_5 : decode cX3_judge 5 = .ok (.istore_n 2, 1) := by decide +kernel
theorem dX3_judge_6 : decode cX3_judge 6 = .ok (.iload_n 2, 1) := by decide +kernel
theorem dX3_judge_7 : decode cX3_judge 7 = .ok (.ifCond .eq 9, 3) := by decide +kernel
theorem dX3_judge_10 : decode cX3_judge 10 = .ok (.aload_n 0, 1) := by decide +kernel
theorem dX3_judge_11 : decode cX3_judge 11 = .ok (.iload_n 2, 1) := by decide +kernel
theorem dX3_judge_12 : decode cX3_judge 12 = .ok (.invokevirtual 51, 3) := by decide +kernel
theorem dX3_judge_15 : decode cX3_judge 15 = .ok (.ireturn, 1) := by decide +kernel
theorem dX3_judge_16 : decode cX3_judge 16 = .ok (.iconst 0, 1) := by decide +kernel
theorem dX3_judge_17 : decode cX3_judge 17 = .ok (.istore_n 3, 1) := by decide +kernel
theorem dX3_judge_18 : decode cX3_judge 18 = .ok (.iload_n 3, 1) := by decide +kernel
theorem dX3_judge_19 : decode cX3_judge 19 = .ok (.aload_n 0, 1) := by decide +kernel
theorem dX3_judge_20 : decode cX3_judge 20 = .ok (.getfield 10, 3) := by decide +kernel
theorem dX3_judge_23 : decode cX3_judge 23 = .ok (.getfield 117, 3) := by decide +kernel
theorem dX3_judge_26 : decode cX3_judge 26 = .ok (.if_icmp .ge 20, 3) := by decide +kernel
theorem dX3_judge_29 : decode cX3_judge 29 = .ok (.aload_n 0, 1) := by decide +kernel
theorem dX3_judge_30 : decode cX3_judge 30 = .ok (.iload_n 1, 1) := by decide +kernel
theorem dX3_judge_31 : decode cX3_judge 31 = .ok (.iload_n 3, 1) := by decide +kernel
theorem dX3_judge_32 : decode cX3_judge 32 = .ok (.invokevirtual 281, 3) := by decide +kernel
theorem dX3_judge_35 : decode cX3_judge 35 = .ok (.ifCond .eq 5, 3) := by decide +kernel
theorem dX3_judge_38 : decode cX3_judge 38 = .ok (.iload_n 3, 1) := by decide +kernel
theorem dX3_judge_39 : decode cX3_judge 39 = .ok (.ireturn, 1) := by decide +kernel
theorem dX3_judge_40 : decode cX3_judge 40 = .ok (.iinc 3 1, 3) := by decide +kernel
theorem dX3_judge_43 : decode cX3_judge 43 = .ok (.goto (-25), 3) := by decide +kernel
theorem dX3_judge_46 : decode cX3_judge 46 = .ok (.iconst (-1), 1) := by decide +kernel
theorem dX3_judge_47 : decode cX3_judge 47 = .ok (.ireturn, 1) := by decide +kernel
theorem dX3_unlike_0 : decode cX3_unlike 0 = .ok (.aload_n 0, 1) := by decide +kernel
theorem dX3_unlike_1 : decode cX3_unlike 1 = .ok (.iload_n 1, 1) := by decide +kernel
theorem dX3_unlike_2 : decode cX3_unlike 2 = .ok (.invokevirtual 278, 3) := by decide +kernel
theorem dX3_unlike_5 : decode cX3_unlike 5 = .ok (.istore_n 2, 1) := by decide +kernel
theorem dX3_unlike_6 : decode cX3_unlike 6 = .ok (.iload_n 2, 1) := by decide +kernel
theorem dX3_unlike_7 : decode cX3_unlike 7 = .ok (.ifCond .eq 9, 3) := by decide +kernel
theorem dX3_unlike_10 : decode cX3_unlike 10 = .ok (.aload_n 0, 1) := by decide +kernel
theorem dX3_unlike_11 : decode cX3_unlike 11 = .ok (.iload_n 2, 1) := by decide +kernel
theorem dX3_unlike_12 : decode cX3_unlike 12 = .ok (.invokevirtual 51, 3) := by decide +kernel
theorem dX3_unlike_15 : decode cX3_unlike 15 = .ok (.ireturn, 1) := by decide +kernel
theorem dX3_unlike_16 : decode cX3_unlike 16 = .ok (.iconst 0, 1) := by decide +kernel
theorem dX3_unlike_17 : decode cX3_unlike 17 = .ok (.istore_n 3, 1) := by decide +kernel
theorem dX3_unlike_18 : decode cX3_unlike 18 = .ok (.iconst 0, 1) := by decide +kernel
theorem dX3_unlike_19 : decode cX3_unlike 19 = .ok (.istore 4, 2) := by decide +kernel
theorem dX3_unlike_21 : decode cX3_unlike 21 = .ok (.iload 4, 2) := by decide +kernel
theorem dX3_unlike_23 : decode cX3_unlike 23 = .ok (.aload_n 0, 1) := by decide +kernel
theorem dX3_unlike_24 : decode cX3_unlike 24 = .ok (.getfield 10, 3) := by decide +kernel
theorem dX3_unlike_27 : decode cX3_unlike 27 = .ok (.getfield 117, 3) := by decide +kernel
theorem dX3_unlike_30 : decode cX3_unlike 30 = .ok (.if_icmp .ge 22, 3) := by decide +kernel
theorem dX3_unlike_33 : decode cX3_unlike 33 = .ok (.iload_n 3, 1) := by decide +kernel
theorem dX3_unlike_34 : decode cX3_unlike 34 = .ok (.aload_n 0, 1) := by decide +kernel
theorem dX3_unlike_35 : decode cX3_unlike 35 = .ok (.iload_n 1, 1) := by decide +kernel
theorem dX3_unlike_36 : decode cX3_unlike 36 = .ok (.iload 4, 2) := by decide +kernel
theorem dX3_unlike_38 : decode cX3_unlike 38 = .ok (.invokevirtual 281, 3) := by decide +kernel
theorem dX3_unlike_41 : decode cX3_unlike 41 = .ok (.invokestatic 148, 3) := by decide +kernel
theorem dX3_unlike_44 : decode cX3_unlike 44 = .ok (.iadd, 1) := by decide +kernel
theorem dX3_unlike_45 : decode cX3_unlike 45 = .ok (.istore_n 3, 1) := by decide +kernel
theorem dX3_unlike_46 : decode cX3_unlike 46 = .ok (.iinc 4 1, 3) := by decide +kernel
theorem dX3_unlike_49 : decode cX3_unlike 49 = .ok (.goto (-28), 3) := by decide +kernel
theorem dX3_unlike_52 : decode cX3_unlike 52 = .ok (.iload_n 3, 1) := by decide +kernel
theorem dX3_unlike_53 : decode cX3_unlike 53 = .ok (.ireturn, 1) := by decide +kernel
theorem dX3_ring_0 : decode cX3_ring 0 = .ok (.aload_n 0, 1) := by decide +kernel
theorem dX3_ring_1 : decode cX3_ring 1 = .ok (.getfield 10, 3) := by decide +kernel
theorem dX3_ring_4 : decode cX3_ring 4 = .ok (.aload_n 0, 1) := by decide +kernel
theorem dX3_ring_5 : decode cX3_ring 5 = .ok (.getfield 10, 3) := by decide +kernel
theorem dX3_ring_8 : decode cX3_ring 8 = .ok (.getfield 135, 3) := by decide +kernel
theorem dX3_ring_11 : decode cX3_ring 11 = .ok (.invokevirtual 195, 3) := by decide +kernel
theorem dX3_ring_14 : decode cX3_ring 14 = .ok (.ifCond .ne 12, 3) := by decide +kernel
theorem dX3_ring_17 : decode cX3_ring 17 = .ok (.aload_n 0, 1) := by decide +kernel
theorem dX3_ring_18 : decode cX3_ring 18 = .ok (.bipush (-5), 2) := by decide +kernel
theorem dX3_ring_20 : decode cX3_ring 20 = .ok (.invokevirtual 51, 3) := by decide +kernel
theorem dX3_ring_23 : decode cX3_ring 23 = .ok (.goto 10, 3) := by decide +kernel
theorem dX3_ring_26 : decode cX3_ring 26 = .ok (.aload_n 0, 1) := by decide +kernel
theorem dX3_ring_27 : decode cX3_ring 27 = .ok (.getfield 10, 3) := by decide +kernel
theorem dX3_ring_30 : decode cX3_ring 30 = .ok (.invokevirtual 284, 3) := by decide +kernel
theorem dX3_ring_33 : decode cX3_ring 33 = .ok (.ireturn, 1) := by decide +kernel
theorem dX3_rings_0 : decode cX3_rings 0 = .ok (.iload_n 1, 1) := by decide +kernel
theorem dX3_rings_1 : decode cX3_rings 1 = .ok (.iconst 1, 1) := by decide +kernel
theorem dX3_rings_2 : decode cX3_rings 2 = .ok (.bipush 40, 2) := by decide +kernel
theorem dX3_rings_4 : decode cX3_rings 4 = .ok (.invokestatic 47, 3) := by decide +kernel
theorem dX3_rings_7 : decode cX3_rings 7 = .ok (.ifCond .ne 10, 3) := by decide +kernel
theorem dX3_rings_10 : decode cX3_rings 10 = .ok (.aload_n 0, 1) := by decide +kernel
theorem dX3_rings_11 : decode cX3_rings 11 = .ok (.bipush (-2), 2) := by decide +kernel
theorem dX3_rings_13 : decode cX3_rings 13 = .ok (.invokevirtual 51, 3) := by decide +kernel
theorem dX3_rings_16 : decode cX3_rings 16 = .ok (.ireturn, 1) := by decide +kernel
theorem dX3_rings_17 : decode cX3_rings 17 = .ok (.aload_n 0, 1) := by decide +kernel
theorem dX3_rings_18 : decode cX3_rings 18 = .ok (.getfield 10, 3) := by decide +kernel
theorem dX3_rings_21 : decode cX3_rings 21 = .ok (.aload_n 0, 1) := by decide +kernel
theorem dX3_rings_22 : decode cX3_rings 22 = .ok (.getfield 10, 3) := by decide +kernel
theorem dX3_rings_25 : decode cX3_rings 25 = .ok (.getfield 135, 3) := by decide +kernel
theorem dX3_rings_28 : decode cX3_rings 28 = .ok (.invokevirtual 195, 3) := by decide +kernel
theorem dX3_rings_31 : decode cX3_rings 31 = .ok (.ifCond .ne 10, 3) := by decide +kernel
theorem dX3_rings_34 : decode cX3_rings 34 = .ok (.aload_n 0, 1) := by decide +kernel
theorem dX3_rings_35 : decode cX3_rings 35 = .ok (.bipush (-5), 2) := by decide +kernel
theorem dX3_rings_37 : decode cX3_rings 37 = .ok (.invokevirtual 51, 3) := by decide +kernel
theorem dX3_rings_40 : decode cX3_rings 40 = .ok (.ireturn, 1) := by decide +kernel
theorem dX3_rings_41 : decode cX3_rings 41 = .ok (.aload_n 0, 1) := by decide +kernel
theorem dX3_rings_42 : decode cX3_rings 42 = .ok (.getfield 10, 3) := by decide +kernel
theorem dX3_rings_45 : decode cX3_rings 45 = .ok (.getfield 287, 3) := by decide +kernel
theorem dX3_rings_48 : decode cX3_rings 48 = .ok (.istore_n 2, 1) := by decide +kernel
theorem dX3_rings_49 : decode cX3_rings 49 = .ok (.iconst 0, 1) := by decide +kernel
theorem dX3_rings_50 : decode cX3_rings 50 = .ok (.istore_n 3, 1) := by decide +kernel
theorem dX3_rings_51 : decode cX3_rings 51 = .ok (.iload_n 3, 1) := by decide +kernel
theorem dX3_rings_52 : decode cX3_rings 52 = .ok (.iload_n 1, 1) := by decide +kernel
theorem dX3_rings_53 : decode cX3_rings 53 = .ok (.if_icmp .ge 17, 3) := by decide +kernel
theorem dX3_rings_56 : decode cX3_rings 56 = .ok (.aload_n 0, 1) := by decide +kernel
theorem dX3_rings_57 : decode cX3_rings 57 = .ok (.getfield 10, 3) := by decide +kernel
theorem dX3_rings_60 : decode cX3_rings 60 = .ok (.invokevirtual 284, 3) := by decide +kernel
theorem dX3_rings_63 : decode cX3_rings 63 = .ok (.pop, 1) := by decide +kernel
theorem dX3_rings_64 : decode cX3_rings 64 = .ok (.iinc 3 1, 3) := by decide +kernel
theorem dX3_rings_67 : decode cX3_rings 67 = .ok (.goto (-16), 3) := by decide +kernel
theorem dX3_rings_70 : decode cX3_rings 70 = .ok (.aload_n 0, 1) := by decide +kernel
theorem dX3_rings_71 : decode cX3_rings 71 = .ok (.getfield 10, 3) := by decide +kernel
theorem dX3_rings_74 : decode cX3_rings 74 = .ok (.getfield 287, 3) := by decide +kernel
theorem dX3_rings_77 : decode cX3_rings 77 = .ok (.iload_n 2, 1) := by decide +kernel
theorem dX3_rings_78 : decode cX3_rings 78 = .ok (.isub, 1) := by decide +kernel
theorem dX3_rings_79 : decode cX3_rings 79 = .ok (.ireturn, 1) := by decide +kernel
theorem dX3_status_0 : decode cX3_status 0 = .ok (.iload_n 1, 1) := by decide +kernel
theorem dX3_status_1 : decode cX3_status 1 = .ok (.tableswitch 163 0 11 #[63, 71, 79, 87, 95, 110, 118, 126, 134, 142, 150, 155], 63) := by decide +kernel
theorem dX3_status_64 : decode cX3_status 64 = .ok (.aload_n 0, 1) := by decide +kernel
theorem dX3_status_65 : decode cX3_status 65 = .ok (.getfield 10, 3) := by decide +kernel
theorem dX3_status_68 : decode cX3_status 68 = .ok (.getfield 117, 3) := by decide +kernel
theorem dX3_status_71 : decode cX3_status 71 = .ok (.ireturn, 1) := by decide +kernel
theorem dX3_status_72 : decode cX3_status 72 = .ok (.aload_n 0, 1) := by decide +kernel
theorem dX3_status_73 : decode cX3_status 73 = .ok (.getfield 10, 3) := by decide +kernel
theorem dX3_status_76 : decode cX3_status 76 = .ok (.getfield 123, 3) := by decide +kernel
theorem dX3_status_79 : decode cX3_status 79 = .ok (.ireturn, 1) := by decide +kernel
theorem dX3_status_80 : decode cX3_status 80 = .ok (.aload_n 0, 1) := by decide +kernel
theorem dX3_status_81 : decode cX3_status 81 = .ok (.getfield 10, 3) := by decide +kernel
theorem dX3_status_84 : decode cX3_status 84 = .ok (.getfield 141, 3) := by decide +kernel
theorem dX3_status_87 : decode cX3_status 87 = .ok (.ireturn, 1) := by decide +kernel
theorem dX3_status_88 : decode cX3_status 88 = .ok (.aload_n 0, 1) := by decide +kernel
theorem dX3_status_89 : decode cX3_status 89 = .ok (.getfield 10, 3) := by decide +kernel
theorem dX3_status_92 : decode cX3_status 92 = .ok (.getfield 135, 3) := by decide +kernel
theorem dX3_status_95 : decode cX3_status 95 = .ok (.ireturn, 1) := by decide +kernel
theorem dX3_status_96 : decode cX3_status 96 = .ok (.aload_n 0, 1) := by decide +kernel
theorem dX3_status_97 : decode cX3_status 97 = .ok (.getfield 10, 3) := by decide +kernel
theorem dX3_status_100 : decode cX3_status 100 = .ok (.aload_n 0, 1) := by decide +kernel
theorem dX3_status_101 : decode cX3_status 101 = .ok (.getfield 10, 3) := by decide +kernel
theorem dX3_status_104 : decode cX3_status 104 = .ok (.getfield 135, 3) := by decide +kernel
theorem dX3_status_107 : decode cX3_status 107 = .ok (.invokevirtual 195, 3) := by decide +kernel
theorem dX3_status_110 : decode cX3_status 110 = .ok (.ireturn, 1) := by decide +kernel
theorem dX3_status_111 : decode cX3_status 111 = .ok (.aload_n 0, 1) := by decide +kernel
theorem dX3_status_112 : decode cX3_status 112 = .ok (.getfield 10, 3) := by decide +kernel
theorem dX3_status_115 : decode cX3_status 115 = .ok (.getfield 290, 3) := by decide +kernel
theorem dX3_status_118 : decode cX3_status 118 = .ok (.ireturn, 1) := by decide +kernel
theorem dX3_status_119 : decode cX3_status 119 = .ok (.aload_n 0, 1) := by decide +kernel
theorem dX3_status_120 : decode cX3_status 120 = .ok (.getfield 10, 3) := by decide +kernel
theorem dX3_status_123 : decode cX3_status 123 = .ok (.getfield 293, 3) := by decide +kernel
theorem dX3_status_126 : decode cX3_status 126 = .ok (.ireturn, 1) := by decide +kernel
theorem dX3_status_127 : decode cX3_status 127 = .ok (.aload_n 0, 1) := by decide +kernel
theorem dX3_status_128 : decode cX3_status 128 = .ok (.getfield 10, 3) := by decide +kernel
theorem dX3_status_131 : decode cX3_status 131 = .ok (.getfield 287, 3) := by decide +kernel
theorem dX3_status_134 : decode cX3_status 134 = .ok (.ireturn, 1) := by decide +kernel
theorem dX3_status_135 : decode cX3_status 135 = .ok (.aload_n 0, 1) := by decide +kernel
theorem dX3_status_136 : decode cX3_status 136 = .ok (.getfield 25, 3) := by decide +kernel
theorem dX3_status_139 : decode cX3_status 139 = .ok (.getfield 173, 3) := by decide +kernel
theorem dX3_status_142 : decode cX3_status 142 = .ok (.ireturn, 1) := by decide +kernel
theorem dX3_status_143 : decode cX3_status 143 = .ok (.aload_n 0, 1) := by decide +kernel
theorem dX3_status_144 : decode cX3_status 144 = .ok (.getfield 10, 3) := by decide +kernel
theorem dX3_status_147 : decode cX3_status 147 = .ok (.getfield 162, 3) := by decide +kernel
theorem dX3_status_150 : decode cX3_status 150 = .ok (.ireturn, 1) := by decide +kernel
theorem dX3_status_151 : decode cX3_status 151 = .ok (.aload_n 0, 1) := by decide +kernel
theorem dX3_status_152 : decode cX3_status 152 = .ok (.invokevirtual 296, 3) := by decide +kernel
theorem dX3_status_155 : decode cX3_status 155 = .ok (.ireturn, 1) := by decide +kernel
theorem dX3_status_156 : decode cX3_status 156 = .ok (.aload_n 0, 1) := by decide +kernel
theorem dX3_status_157 : decode cX3_status 157 = .ok (.getfield 10, 3) := by decide +kernel
theorem dX3_status_160 : decode cX3_status 160 = .ok (.invokevirtual 219, 3) := by decide +kernel
theorem dX3_status_163 : decode cX3_status 163 = .ok (.ireturn, 1) := by decide +kernel
theorem dX3_status_164 : decode cX3_status 164 = .ok (.iload_n 1, 1) := by decide +kernel
theorem dX3_status_165 : decode cX3_status 165 = .ok (.bipush 12, 2) := by decide +kernel
theorem dX3_status_167 : decode cX3_status 167 = .ok (.bipush 16, 2) := by decide +kernel
theorem dX3_status_169 : decode cX3_status 169 = .ok (.invokestatic 47, 3) := by decide +kernel
theorem dX3_status_172 : decode cX3_status 172 = .ok (.ifCond .eq 15, 3) := by decide +kernel
theorem dX3_status_175 : decode cX3_status 175 = .ok (.aload_n 0, 1) := by decide +kernel
theorem dX3_status_176 : decode cX3_status 176 = .ok (.getfield 35, 3) := by decide +kernel
theorem dX3_status_179 : decode cX3_status 179 = .ok (.iload_n 1, 1) := by decide +kernel
theorem dX3_status_180 : decode cX3_status 180 = .ok (.bipush 12, 2) := by decide +kernel
theorem dX3_status_182 : decode cX3_status 182 = .ok (.isub, 1) := by decide +kernel
theorem dX3_status_183 : decode cX3_status 183 = .ok (.iaload, 1) := by decide +kernel
theorem dX3_status_184 : decode cX3_status 184 = .ok (.goto 4, 3) := by decide +kernel
theorem dX3_status_187 : decode cX3_status 187 = .ok (.iconst (-1), 1) := by decide +kernel
theorem dX3_status_188 : decode cX3_status 188 = .ok (.ireturn, 1) := by decide +kernel
theorem dX3_refuse_0 : decode cX3_refuse 0 = .ok (.bipush (-2), 2) := by decide +kernel
theorem dX3_refuse_2 : decode cX3_refuse 2 = .ok (.iload_n 1, 1) := by decide +kernel
theorem dX3_refuse_3 : decode cX3_refuse 3 = .ok (.isub, 1) := by decide +kernel
theorem dX3_refuse_4 : decode cX3_refuse 4 = .ok (.istore_n 2, 1) := by decide +kernel
theorem dX3_refuse_5 : decode cX3_refuse 5 = .ok (.iload_n 2, 1) := by decide +kernel
theorem dX3_refuse_6 : decode cX3_refuse 6 = .ok (.iconst 0, 1) := by decide +kernel
theorem dX3_refuse_7 : decode cX3_refuse 7 = .ok (.iconst 4, 1) := by decide +kernel
theorem dX3_refuse_8 : decode cX3_refuse 8 = .ok (.invokestatic 47, 3) := by decide +kernel
theorem dX3_refuse_11 : decode cX3_refuse 11 = .ok (.ifCond .eq 13, 3) := by decide +kernel
theorem dX3_refuse_14 : decode cX3_refuse 14 = .ok (.aload_n 0, 1) := by decide +kernel
theorem dX3_refuse_15 : decode cX3_refuse 15 = .ok (.getfield 35, 3) := by decide +kernel
theorem dX3_refuse_18 : decode cX3_refuse 18 = .ok (.iload_n 2, 1) := by decide +kernel
theorem dX3_refuse_19 : decode cX3_refuse 19 = .ok (.dup2, 1) := by decide +kernel
theorem dX3_refuse_20 : decode cX3_refuse 20 = .ok (.iaload, 1) := by decide +kernel
theorem dX3_refuse_21 : decode cX3_refuse 21 = .ok (.iconst 1, 1) := by decide +kernel
theorem dX3_refuse_22 : decode cX3_refuse 22 = .ok (.iadd, 1) := by decide +kernel
theorem dX3_refuse_23 : decode cX3_refuse 23 = .ok (.iastore, 1) := by decide +kernel
theorem dX3_refuse_24 : decode cX3_refuse 24 = .ok (.iload_n 1, 1) := by decide +kernel
theorem dX3_refuse_25 : decode cX3_refuse 25 = .ok (.ireturn, 1) := by decide +kernel
theorem dX3_refuseFarBelow_0 : decode cX3_refuseFarBelow 0 = .ok (.ldc_w 299, 3) := by decide +kernel
theorem dX3_refuseFarBelow_3 : decode cX3_refuseFarBelow 3 = .ok (.aload_n 0, 1) := by decide +kernel
theorem dX3_refuseFarBelow_4 : decode cX3_refuseFarBelow 4 = .ok (.iload_n 1, 1) := by decide +kernel
theorem dX3_refuseFarBelow_5 : decode cX3_refuseFarBelow 5 = .ok (.invokevirtual 51, 3) := by decide +kernel
theorem dX3_refuseFarBelow_8 : decode cX3_refuseFarBelow 8 = .ok (.iadd, 1) := by decide +kernel
theorem dX3_refuseFarBelow_9 : decode cX3_refuseFarBelow 9 = .ok (.ireturn, 1) := by decide +kernel
theorem dX3_rowRefusal_0 : decode cX3_rowRefusal 0 = .ok (.iload_n 1, 1) := by decide +kernel
theorem dX3_rowRefusal_1 : decode cX3_rowRefusal 1 = .ok (.invokestatic 43, 3) := by decide +kernel
theorem dX3_rowRefusal_4 : decode cX3_rowRefusal 4 = .ok (.ifCond .ne 6, 3) := by decide +kernel
theorem dX3_rowRefusal_7 : decode cX3_rowRefusal 7 = .ok (.bipush (-2), 2) := by decide +kernel
theorem dX3_rowRefusal_9 : decode cX3_rowRefusal 9 = .ok (.ireturn, 1) := by decide +kernel
theorem dX3_rowRefusal_10 : decode cX3_rowRefusal 10 = .ok (.aload_n 0, 1) := by decide +kernel
theorem dX3_rowRefusal_11 : decode cX3_rowRefusal 11 = .ok (.getfield 31, 3) := by decide +kernel
theorem dX3_rowRefusal_14 : decode cX3_rowRefusal 14 = .ok (.iload_n 1, 1) := by decide +kernel
theorem dX3_rowRefusal_15 : decode cX3_rowRefusal 15 = .ok (.aaload, 1) := by decide +kernel
theorem dX3_rowRefusal_16 : decode cX3_rowRefusal 16 = .ok (.invokevirtual 69, 3) := by decide +kernel
theorem dX3_rowRefusal_19 : decode cX3_rowRefusal 19 = .ok (.ifCond .eq 6, 3) := by decide +kernel
theorem dX3_rowRefusal_22 : decode cX3_rowRefusal 22 = .ok (.bipush (-3), 2) := by decide +kernel
theorem dX3_rowRefusal_24 : decode cX3_rowRefusal 24 = .ok (.ireturn, 1) := by decide +kernel
theorem dX3_rowRefusal_25 : decode cX3_rowRefusal 25 = .ok (.aload_n 0, 1) := by decide +kernel
theorem dX3_rowRefusal_26 : decode cX3_rowRefusal 26 = .ok (.getfield 31, 3) := by decide +kernel
theorem dX3_rowRefusal_29 : decode cX3_rowRefusal 29 = .ok (.iload_n 1, 1) := by decide +kernel
theorem dX3_rowRefusal_30 : decode cX3_rowRefusal 30 = .ok (.aaload, 1) := by decide +kernel
theorem dX3_rowRefusal_31 : decode cX3_rowRefusal 31 = .ok (.invokevirtual 73, 3) := by decide +kernel
theorem dX3_rowRefusal_34 : decode cX3_rowRefusal 34 = .ok (.ifCond .eq 7, 3) := by decide +kernel
theorem dX3_rowRefusal_37 : decode cX3_rowRefusal 37 = .ok (.iconst 0, 1) := by decide +kernel
theorem dX3_rowRefusal_38 : decode cX3_rowRefusal 38 = .ok (.goto 5, 3) := by decide +kernel
theorem dX3_rowRefusal_41 : decode cX3_rowRefusal 41 = .ok (.bipush (-4), 2) := by decide +kernel
theorem dX3_rowRefusal_43 : decode cX3_rowRefusal 43 = .ok (.ireturn, 1) := by decide +kernel
theorem dX3_listRefusal_0 : decode cX3_listRefusal 0 = .ok (.aload_n 0, 1) := by decide +kernel
theorem dX3_listRefusal_1 : decode cX3_listRefusal 1 = .ok (.iload_n 1, 1) := by decide +kernel
theorem dX3_listRefusal_2 : decode cX3_listRefusal 2 = .ok (.invokevirtual 59, 3) := by decide +kernel
theorem dX3_listRefusal_5 : decode cX3_listRefusal 5 = .ok (.istore_n 2, 1) := by decide +kernel
theorem dX3_listRefusal_6 : decode cX3_listRefusal 6 = .ok (.iload_n 2, 1) := by decide +kernel
theorem dX3_listRefusal_7 : decode cX3_listRefusal 7 = .ok (.ifCond .eq 5, 3) := by decide +kernel
theorem dX3_listRefusal_10 : decode cX3_listRefusal 10 = .ok (.iload_n 2, 1) := by decide +kernel
theorem dX3_listRefusal_11 : decode cX3_listRefusal 11 = .ok (.ireturn, 1) := by decide +kernel
theorem dX3_listRefusal_12 : decode cX3_listRefusal 12 = .ok (.aload_n 0, 1) := by decide +kernel
theorem dX3_listRefusal_13 : decode cX3_listRefusal 13 = .ok (.getfield 31, 3) := by decide +kernel
theorem dX3_listRefusal_16 : decode cX3_listRefusal 16 = .ok (.iload_n 1, 1) := by decide +kernel
theorem dX3_listRefusal_17 : decode cX3_listRefusal 17 = .ok (.aaload, 1) := by decide +kernel
theorem dX3_listRefusal_18 : decode cX3_listRefusal 18 = .ok (.iconst 0, 1) := by decide +kernel
theorem dX3_listRefusal_19 : decode cX3_listRefusal 19 = .ok (.aload_n 0, 1) := by decide +kernel
theorem dX3_listRefusal_20 : decode cX3_listRefusal 20 = .ok (.getfield 10, 3) := by decide +kernel
theorem dX3_listRefusal_23 : decode cX3_listRefusal 23 = .ok (.getfield 117, 3) := by decide +kernel
theorem dX3_listRefusal_26 : decode cX3_listRefusal 26 = .ok (.invokevirtual 80, 3) := by decide +kernel
theorem dX3_listRefusal_29 : decode cX3_listRefusal 29 = .ok (.ifCond .eq 7, 3) := by decide +kernel
theorem dX3_listRefusal_32 : decode cX3_listRefusal 32 = .ok (.iconst 0, 1) := by decide +kernel
theorem dX3_listRefusal_33 : decode cX3_listRefusal 33 = .ok (.goto 5, 3) := by decide +kernel
theorem dX3_listRefusal_36 : decode cX3_listRefusal 36 = .ok (.bipush (-2), 2) := by decide +kernel
theorem dX3_listRefusal_38 : decode cX3_listRefusal 38 = .ok (.ireturn, 1) := by decide +kernel
theorem dX3_wronglyTold_0 : decode cX3_wronglyTold 0 = .ok (.aload_n 0, 1) := by decide +kernel
theorem dX3_wronglyTold_1 : decode cX3_wronglyTold 1 = .ok (.getfield 31, 3) := by decide +kernel
theorem dX3_wronglyTold_4 : decode cX3_wronglyTold 4 = .ok (.iload_n 1, 1) := by decide +kernel
theorem dX3_wronglyTold_5 : decode cX3_wronglyTold 5 = .ok (.aaload, 1) := by decide +kernel
theorem dX3_wronglyTold_6 : decode cX3_wronglyTold 6 = .ok (.getfield 84, 3) := by decide +kernel
theorem dX3_wronglyTold_9 : decode cX3_wronglyTold 9 = .ok (.iload_n 2, 1) := by decide +kernel
theorem dX3_wronglyTold_10 : decode cX3_wronglyTold 10 = .ok (.laload, 1) := by decide +kernel
theorem dX3_wronglyTold_11 : decode cX3_wronglyTold 11 = .ok (.aload_n 0, 1) := by decide +kernel
theorem dX3_wronglyTold_12 : decode cX3_wronglyTold 12 = .ok (.getfield 10, 3) := by decide +kernel
theorem dX3_wronglyTold_15 : decode cX3_wronglyTold 15 = .ok (.invokevirtual 300, 3) := by decide +kernel
theorem dX3_wronglyTold_18 : decode cX3_wronglyTold 18 = .ok (.i2l, 1) := by decide +kernel
theorem dX3_wronglyTold_19 : decode cX3_wronglyTold 19 = .ok (.land, 1) := by decide +kernel
theorem dX3_wronglyTold_20 : decode cX3_wronglyTold 20 = .ok (.l2i, 1) := by decide +kernel
theorem dX3_wronglyTold_21 : decode cX3_wronglyTold 21 = .ok (.istore_n 3, 1) := by decide +kernel
theorem dX3_wronglyTold_22 : decode cX3_wronglyTold 22 = .ok (.iload_n 3, 1) := by decide +kernel
theorem dX3_wronglyTold_23 : decode cX3_wronglyTold 23 = .ok (.aload_n 0, 1) := by decide +kernel
theorem dX3_wronglyTold_24 : decode cX3_wronglyTold 24 = .ok (.getfield 10, 3) := by decide +kernel
theorem dX3_wronglyTold_27 : decode cX3_wronglyTold 27 = .ok (.iload_n 2, 1) := by decide +kernel
theorem dX3_wronglyTold_28 : decode cX3_wronglyTold 28 = .ok (.invokevirtual 204, 3) := by decide +kernel
theorem dX3_wronglyTold_31 : decode cX3_wronglyTold 31 = .ok (.ixor, 1) := by decide +kernel
theorem dX3_wronglyTold_32 : decode cX3_wronglyTold 32 = .ok (.ireturn, 1) := by decide +kernel
theorem dX3_saidAs_0 : decode cX3_saidAs 0 = .ok (.aload_n 0, 1) := by decide +kernel
theorem dX3_saidAs_1 : decode cX3_saidAs 1 = .ok (.getfield 10, 3) := by decide +kernel
theorem dX3_saidAs_4 : decode cX3_saidAs 4 = .ok (.iload_n 1, 1) := by decide +kernel
theorem dX3_saidAs_5 : decode cX3_saidAs 5 = .ok (.invokevirtual 189, 3) := by decide +kernel
theorem dX3_saidAs_8 : decode cX3_saidAs 8 = .ok (.istore_n 3, 1) := by decide +kernel
theorem dX3_saidAs_9 : decode cX3_saidAs 9 = .ok (.iload_n 2, 1) := by decide +kernel
theorem dX3_saidAs_10 : decode cX3_saidAs 10 = .ok (.tableswitch 80 0 5 #[38, 43, 52, 80, 80, 57], 38) := by decide +kernel
theorem dX3_saidAs_48 : decode cX3_saidAs 48 = .ok (.iload_n 3, 1) := by decide +kernel
theorem dX3_saidAs_49 : decode cX3_saidAs 49 = .ok (.invokestatic 207, 3) := by decide +kernel
theorem dX3_saidAs_52 : decode cX3_saidAs 52 = .ok (.ireturn, 1) := by decide +kernel
theorem dX3_saidAs_53 : decode cX3_saidAs 53 = .ok (.aload_n 0, 1) := by decide +kernel
theorem dX3_saidAs_54 : decode cX3_saidAs 54 = .ok (.getfield 10, 3) := by decide +kernel
theorem dX3_saidAs_57 : decode cX3_saidAs 57 = .ok (.iload_n 1, 1) := by decide +kernel
theorem dX3_saidAs_58 : decode cX3_saidAs 58 = .ok (.invokevirtual 303, 3) := by decide +kernel
theorem dX3_saidAs_61 : decode cX3_saidAs 61 = .ok (.ireturn, 1) := by decide +kernel
theorem dX3_saidAs_62 : decode cX3_saidAs 62 = .ok (.iload_n 3, 1) := by decide +kernel
theorem dX3_saidAs_63 : decode cX3_saidAs 63 = .ok (.invokestatic 148, 3) := by decide +kernel
theorem dX3_saidAs_66 : decode cX3_saidAs 66 = .ok (.ireturn, 1) := by decide +kernel
theorem dX3_saidAs_67 : decode cX3_saidAs 67 = .ok (.iload_n 3, 1) := by decide +kernel
theorem dX3_saidAs_68 : decode cX3_saidAs 68 = .ok (.aload_n 0, 1) := by decide +kernel
theorem dX3_saidAs_69 : decode cX3_saidAs 69 = .ok (.getfield 10, 3) := by decide +kernel
theorem dX3_saidAs_72 : decode cX3_saidAs 72 = .ok (.getfield 135, 3) := by decide +kernel
theorem dX3_saidAs_75 : decode cX3_saidAs 75 = .ok (.invokestatic 210, 3) := by decide +kernel
theorem dX3_saidAs_78 : decode cX3_saidAs 78 = .ok (.invokestatic 201, 3) := by decide +kernel
theorem dX3_saidAs_81 : decode cX3_saidAs 81 = .ok (.ifCond .eq 7, 3) := by decide +kernel
theorem dX3_saidAs_84 : decode cX3_saidAs 84 = .ok (.iconst 1, 1) := by decide +kernel
theorem dX3_saidAs_85 : decode cX3_saidAs 85 = .ok (.goto 4, 3) := by decide +kernel
theorem dX3_saidAs_88 : decode cX3_saidAs 88 = .ok (.iconst 0, 1) := by decide +kernel
theorem dX3_saidAs_89 : decode cX3_saidAs 89 = .ok (.ireturn, 1) := by decide +kernel
theorem dX3_saidAs_90 : decode cX3_saidAs 90 = .ok (.aload_n 0, 1) := by decide +kernel
theorem dX3_saidAs_91 : decode cX3_saidAs 91 = .ok (.getfield 10, 3) := by decide +kernel
theorem dX3_saidAs_94 : decode cX3_saidAs 94 = .ok (.iload_n 1, 1) := by decide +kernel
theorem dX3_saidAs_95 : decode cX3_saidAs 95 = .ok (.invokevirtual 186, 3) := by decide +kernel
theorem dX3_saidAs_98 : decode cX3_saidAs 98 = .ok (.ireturn, 1) := by decide +kernel
theorem dX3_forgetWhoIsGone_0 : decode cX3_forgetWhoIsGone 0 = .ok (.iconst 0, 1) := by decide +kernel
theorem dX3_forgetWhoIsGone_1 : decode cX3_forgetWhoIsGone 1 = .ok (.istore_n 1, 1) := by decide +kernel
theorem dX3_forgetWhoIsGone_2 : decode cX3_forgetWhoIsGone 2 = .ok (.iload_n 1, 1) := by decide +kernel
theorem dX3_forgetWhoIsGone_3 : decode cX3_forgetWhoIsGone 3 = .ok (.bipush 8, 2) := by decide +kernel
theorem dX3_forgetWhoIsGone_5 : decode cX3_forgetWhoIsGone 5 = .ok (.if_icmp .ge 40, 3) := by decide +kernel
theorem dX3_forgetWhoIsGone_8 : decode cX3_forgetWhoIsGone 8 = .ok (.aload_n 0, 1) := by decide +kernel
theorem dX3_forgetWhoIsGone_9 : decode cX3_forgetWhoIsGone 9 = .ok (.getfield 31, 3) := by decide +kernel
theorem dX3_forgetWhoIsGone_12 : decode cX3_forgetWhoIsGone 12 = .ok (.iload_n 1, 1) := by decide +kernel
theorem dX3_forgetWhoIsGone_13 : decode cX3_forgetWhoIsGone 13 = .ok (.aaload, 1) := by decide +kernel
theorem dX3_forgetWhoIsGone_14 : decode cX3_forgetWhoIsGone 14 = .ok (.getfield 76, 3) := by decide +kernel
theorem dX3_forgetWhoIsGone_17 : decode cX3_forgetWhoIsGone 17 = .ok (.bipush 10, 2) := by decide +kernel
theorem dX3_forgetWhoIsGone_19 : decode cX3_forgetWhoIsGone 19 = .ok (.aload_n 0, 1) := by decide +kernel
theorem dX3_forgetWhoIsGone_20 : decode cX3_forgetWhoIsGone 20 = .ok (.getfield 10, 3) := by decide +kernel
theorem dX3_forgetWhoIsGone_23 : decode cX3_forgetWhoIsGone 23 = .ok (.getfield 123, 3) := by decide +kernel
theorem dX3_forgetWhoIsGone_26 : decode cX3_forgetWhoIsGone 26 = .ok (.iadd, 1) := by decide +kernel
theorem dX3_forgetWhoIsGone_27 : decode cX3_forgetWhoIsGone 27 = .ok (.if_icmp .lt 12, 3) := by decide +kernel
theorem dX3_forgetWhoIsGone_30 : decode cX3_forgetWhoIsGone 30 = .ok (.aload_n 0, 1) := by decide +kernel
theorem dX3_forgetWhoIsGone_31 : decode cX3_forgetWhoIsGone 31 = .ok (.getfield 31, 3) := by decide +kernel
theorem dX3_forgetWhoIsGone_34 : decode cX3_forgetWhoIsGone 34 = .ok (.iload_n 1, 1) := by decide +kernel
theorem dX3_forgetWhoIsGone_35 : decode cX3_forgetWhoIsGone 35 = .ok (.aaload, 1) := by decide +kernel
theorem dX3_forgetWhoIsGone_36 : decode cX3_forgetWhoIsGone 36 = .ok (.invokevirtual 97, 3) := by decide +kernel
theorem dX3_forgetWhoIsGone_39 : decode cX3_forgetWhoIsGone 39 = .ok (.iinc 1 1, 3) := by decide +kernel
theorem dX3_forgetWhoIsGone_42 : decode cX3_forgetWhoIsGone 42 = .ok (.goto (-40), 3) := by decide +kernel
theorem dX3_forgetWhoIsGone_45 : decode cX3_forgetWhoIsGone 45 = .ok (.return_, 1) := by decide +kernel
theorem dX3_fullShelves_0 : decode cX3_fullShelves 0 = .ok (.iconst 0, 1) := by decide +kernel
theorem dX3_fullShelves_1 : decode cX3_fullShelves 1 = .ok (.istore_n 1, 1) := by decide +kernel
theorem dX3_fullShelves_2 : decode cX3_fullShelves 2 = .ok (.iconst 0, 1) := by decide +kernel
theorem dX3_fullShelves_3 : decode cX3_fullShelves 3 = .ok (.istore_n 2, 1) := by decide +kernel
theorem dX3_fullShelves_4 : decode cX3_fullShelves 4 = .ok (.iload_n 2, 1) := by decide +kernel
theorem dX3_fullShelves_5 : decode cX3_fullShelves 5 = .ok (.bipush 8, 2) := by decide +kernel
theorem dX3_fullShelves_7 : decode cX3_fullShelves 7 = .ok (.if_icmp .ge 25, 3) := by decide +kernel
theorem dX3_fullShelves_10 : decode cX3_fullShelves 10 = .ok (.aload_n 0, 1) := by decide +kernel
theorem dX3_fullShelves_11 : decode cX3_fullShelves 11 = .ok (.getfield 31, 3) := by decide +kernel
theorem dX3_fullShelves_14 : decode cX3_fullShelves 14 = .ok (.iload_n 2, 1) := by decide +kernel
theorem dX3_fullShelves_15 : decode cX3_fullShelves 15 = .ok (.aaload, 1) := by decide +kernel
theorem dX3_fullShelves_16 : decode cX3_fullShelves 16 = .ok (.getfield 76, 3) := by decide +kernel
theorem dX3_fullShelves_19 : decode cX3_fullShelves 19 = .ok (.iconst (-1), 1) := by decide +kernel
theorem dX3_fullShelves_20 : decode cX3_fullShelves 20 = .ok (.if_icmp .eq 6, 3) := by decide +kernel
theorem dX3_fullShelves_23 : decode cX3_fullShelves 23 = .ok (.iinc 1 1, 3) := by decide +kernel
theorem dX3_fullShelves_26 : decode cX3_fullShelves 26 = .ok (.iinc 2 1, 3) := by decide +kernel
theorem dX3_fullShelves_29 : decode cX3_fullShelves 29 = .ok (.goto (-25), 3) := by decide +kernel
theorem dX3_fullShelves_32 : decode cX3_fullShelves 32 = .ok (.iload_n 1, 1) := by decide +kernel
theorem dX3_fullShelves_33 : decode cX3_fullShelves 33 = .ok (.ireturn, 1) := by decide +kernel
theorem dX3_isNoLoss_0 : decode cX3_isNoLoss 0 = .ok (.aload_n 0, 1) := by decide +kernel
theorem dX3_isNoLoss_1 : decode cX3_isNoLoss 1 = .ok (.getfield 10, 3) := by decide +kernel
theorem dX3_isNoLoss_4 : decode cX3_isNoLoss 4 = .ok (.aload_n 0, 1) := by decide +kernel
theorem dX3_isNoLoss_5 : decode cX3_isNoLoss 5 = .ok (.getfield 10, 3) := by decide +kernel
theorem dX3_isNoLoss_8 : decode cX3_isNoLoss 8 = .ok (.iload_n 1, 1) := by decide +kernel
theorem dX3_isNoLoss_9 : decode cX3_isNoLoss 9 = .ok (.invokevirtual 192, 3) := by decide +kernel
theorem dX3_isNoLoss_12 : decode cX3_isNoLoss 12 = .ok (.invokevirtual 195, 3) := by decide +kernel
theorem dX3_isNoLoss_15 : decode cX3_isNoLoss 15 = .ok (.istore_n 3, 1) := by decide +kernel
theorem dX3_isNoLoss_16 : decode cX3_isNoLoss 16 = .ok (.iload_n 3, 1) := by decide +kernel
theorem dX3_isNoLoss_17 : decode cX3_isNoLoss 17 = .ok (.ifCond .eq 23, 3) := by decide +kernel
theorem dX3_isNoLoss_20 : decode cX3_isNoLoss 20 = .ok (.aload_n 0, 1) := by decide +kernel
theorem dX3_isNoLoss_21 : decode cX3_isNoLoss 21 = .ok (.getfield 10, 3) := by decide +kernel
theorem dX3_isNoLoss_24 : decode cX3_isNoLoss 24 = .ok (.iload_n 1, 1) := by decide +kernel
theorem dX3_isNoLoss_25 : decode cX3_isNoLoss 25 = .ok (.invokevirtual 233, 3) := by decide +kernel
theorem dX3_isNoLoss_28 : decode cX3_isNoLoss 28 = .ok (.iload_n 2, 1) := by decide +kernel
theorem dX3_isNoLoss_29 : decode cX3_isNoLoss 29 = .ok (.iload_n 3, 1) := by decide +kernel
theorem dX3_isNoLoss_30 : decode cX3_isNoLoss 30 = .ok (.invokestatic 242, 3) := by decide +kernel
theorem dX3_isNoLoss_33 : decode cX3_isNoLoss 33 = .ok (.ifCond .lt 7, 3) := by decide +kernel
theorem dX3_isNoLoss_36 : decode cX3_isNoLoss 36 = .ok (.iconst 1, 1) := by decide +kernel
theorem dX3_isNoLoss_37 : decode cX3_isNoLoss 37 = .ok (.goto 4, 3) := by decide +kernel
theorem dX3_isNoLoss_40 : decode cX3_isNoLoss 40 = .ok (.iconst 0, 1) := by decide +kernel
theorem dX3_isNoLoss_41 : decode cX3_isNoLoss 41 = .ok (.ireturn, 1) := by decide +kernel
theorem dX3_areWagers_0 : decode cX3_areWagers 0 = .ok (.aload_n 1, 1) := by decide +kernel
theorem dX3_areWagers_1 : decode cX3_areWagers 1 = .ok (.iconst 0, 1) := by decide +kernel
theorem dX3_areWagers_2 : decode cX3_areWagers 2 = .ok (.iload_n 2, 1) := by decide +kernel
theorem dX3_areWagers_3 : decode cX3_areWagers 3 = .ok (.invokevirtual 80, 3) := by decide +kernel
theorem dX3_areWagers_6 : decode cX3_areWagers 6 = .ok (.ifCond .ne 5, 3) := by decide +kernel
theorem dX3_areWagers_9 : decode cX3_areWagers 9 = .ok (.iconst 0, 1) := by decide +kernel
theorem dX3_areWagers_10 : decode cX3_areWagers 10 = .ok (.ireturn, 1) := by decide +kernel
theorem dX3_areWagers_11 : decode cX3_areWagers 11 = .ok (.iconst 0, 1) := by decide +kernel
theorem dX3_areWagers_12 : decode cX3_areWagers 12 = .ok (.istore_n 3, 1) := by decide +kernel
theorem dX3_areWagers_13 : decode cX3_areWagers 13 = .ok (.iload_n 3, 1) := by decide +kernel
theorem dX3_areWagers_14 : decode cX3_areWagers 14 = .ok (.iload_n 2, 1) := by decide +kernel
theorem dX3_areWagers_15 : decode cX3_areWagers 15 = .ok (.if_icmp .ge 57, 3) := by decide +kernel
theorem dX3_areWagers_18 : decode cX3_areWagers 18 = .ok (.aload_n 1, 1) := by decide +kernel
theorem dX3_areWagers_19 : decode cX3_areWagers 19 = .ok (.getfield 84, 3) := by decide +kernel
theorem dX3_areWagers_22 : decode cX3_areWagers 22 = .ok (.iload_n 3, 1) := by decide +kernel
theorem dX3_areWagers_23 : decode cX3_areWagers 23 = .ok (.laload, 1) := by decide +kernel
theorem dX3_areWagers_24 : decode cX3_areWagers 24 = .ok (.lstore 4, 2) := by decide +kernel
theorem dX3_areWagers_26 : decode cX3_areWagers 26 = .ok (.lload 4, 2) := by decide +kernel
theorem dX3_areWagers_28 : decode cX3_areWagers 28 = .ok (.lconst 0, 1) := by decide +kernel
theorem dX3_areWagers_29 : decode cX3_areWagers 29 = .ok (.lcmp, 1) := by decide +kernel
theorem dX3_areWagers_30 : decode cX3_areWagers 30 = .ok (.ifCond .lt 34, 3) := by decide +kernel
theorem dX3_areWagers_33 : decode cX3_areWagers 33 = .ok (.lload 4, 2) := by decide +kernel
theorem dX3_areWagers_35 : decode cX3_areWagers 35 = .ok (.ldc2_w 306, 3) := by decide +kernel
theorem dX3_areWagers_38 : decode cX3_areWagers 38 = .ok (.ldiv, 1) := by decide +kernel
theorem dX3_areWagers_39 : decode cX3_areWagers 39 = .ok (.aload_n 0, 1) := by decide +kernel
theorem dX3_areWagers_40 : decode cX3_areWagers 40 = .ok (.getfield 10, 3) := by decide +kernel
theorem dX3_areWagers_43 : decode cX3_areWagers 43 = .ok (.getfield 117, 3) := by decide +kernel
theorem dX3_areWagers_46 : decode cX3_areWagers 46 = .ok (.i2l, 1) := by decide +kernel
theorem dX3_areWagers_47 : decode cX3_areWagers 47 = .ok (.lcmp, 1) := by decide +kernel
theorem dX3_areWagers_48 : decode cX3_areWagers 48 = .ok (.ifCond .ge 16, 3) := by decide +kernel
theorem dX3_areWagers_51 : decode cX3_areWagers 51 = .ok (.lload 4, 2) := by decide +kernel
theorem dX3_areWagers_53 : decode cX3_areWagers 53 = .ok (.ldc2_w 306, 3) := by decide +kernel
theorem dX3_areWagers_56 : decode cX3_areWagers 56 = .ok (.lrem, 1) := by decide +kernel
theorem dX3_areWagers_57 : decode cX3_areWagers 57 = .ok (.l2i, 1) := by decide +kernel
theorem dX3_areWagers_58 : decode cX3_areWagers 58 = .ok (.invokestatic 236, 3) := by decide +kernel
theorem dX3_areWagers_61 : decode cX3_areWagers 61 = .ok (.ifCond .ne 5, 3) := by decide +kernel
theorem dX3_areWagers_64 : decode cX3_areWagers 64 = .ok (.iconst 0, 1) := by decide +kernel
theorem dX3_areWagers_65 : decode cX3_areWagers 65 = .ok (.ireturn, 1) := by decide +kernel
theorem dX3_areWagers_66 : decode cX3_areWagers 66 = .ok (.iinc 3 1, 3) := by decide +kernel
theorem dX3_areWagers_69 : decode cX3_areWagers 69 = .ok (.goto (-56), 3) := by decide +kernel
theorem dX3_areWagers_72 : decode cX3_areWagers 72 = .ok (.iconst 1, 1) := by decide +kernel
theorem dX3_areWagers_73 : decode cX3_areWagers 73 = .ok (.ireturn, 1) := by decide +kernel
theorem dX3_areMornings_0 : decode cX3_areMornings 0 = .ok (.aload_n 1, 1) := by decide +kernel
theorem dX3_areMornings_1 : decode cX3_areMornings 1 = .ok (.iconst 0, 1) := by decide +kernel
theorem dX3_areMornings_2 : decode cX3_areMornings 2 = .ok (.iload_n 2, 1) := by decide +kernel
theorem dX3_areMornings_3 : decode cX3_areMornings 3 = .ok (.invokevirtual 80, 3) := by decide +kernel
theorem dX3_areMornings_6 : decode cX3_areMornings 6 = .ok (.ifCond .ne 5, 3) := by decide +kernel
theorem dX3_areMornings_9 : decode cX3_areMornings 9 = .ok (.iconst 0, 1) := by decide +kernel
theorem dX3_areMornings_10 : decode cX3_areMornings 10 = .ok (.ireturn, 1) := by decide +kernel
theorem dX3_areMornings_11 : decode cX3_areMornings 11 = .ok (.iconst 0, 1) := by decide +kernel
theorem dX3_areMornings_12 : decode cX3_areMornings 12 = .ok (.istore_n 3, 1) := by decide +kernel
theorem dX3_areMornings_13 : decode cX3_areMornings 13 = .ok (.iload_n 3, 1) := by decide +kernel
theorem dX3_areMornings_14 : decode cX3_areMornings 14 = .ok (.iload_n 2, 1) := by decide +kernel
theorem dX3_areMornings_15 : decode cX3_areMornings 15 = .ok (.if_icmp .ge 40, 3) := by decide +kernel
theorem dX3_areMornings_18 : decode cX3_areMornings 18 = .ok (.aload_n 1, 1) := by decide +kernel
theorem dX3_areMornings_19 : decode cX3_areMornings 19 = .ok (.getfield 84, 3) := by decide +kernel
theorem dX3_areMornings_22 : decode cX3_areMornings 22 = .ok (.iload_n 3, 1) := by decide +kernel
theorem dX3_areMornings_23 : decode cX3_areMornings 23 = .ok (.laload, 1) := by decide +kernel
theorem dX3_areMornings_24 : decode cX3_areMornings 24 = .ok (.lconst 0, 1) := by decide +kernel
theorem dX3_areMornings_25 : decode cX3_areMornings 25 = .ok (.lcmp, 1) := by decide +kernel
theorem dX3_areMornings_26 : decode cX3_areMornings 26 = .ok (.ifCond .lt 21, 3) := by decide +kernel
theorem dX3_areMornings_29 : decode cX3_areMornings 29 = .ok (.aload_n 1, 1) := by decide +kernel
theorem dX3_areMornings_30 : decode cX3_areMornings 30 = .ok (.getfield 84, 3) := by decide +kernel
theorem dX3_areMornings_33 : decode cX3_areMornings 33 = .ok (.iload_n 3, 1) := by decide +kernel
theorem dX3_areMornings_34 : decode cX3_areMornings 34 = .ok (.laload, 1) := by decide +kernel
theorem dX3_areMornings_35 : decode cX3_areMornings 35 = .ok (.aload_n 0, 1) := by decide +kernel
theorem dX3_areMornings_36 : decode cX3_areMornings 36 = .ok (.getfield 10, 3) := by decide +kernel
theorem dX3_areMornings_39 : decode cX3_areMornings 39 = .ok (.getfield 117, 3) := by decide +kernel
theorem dX3_areMornings_42 : decode cX3_areMornings 42 = .ok (.i2l, 1) := by decide +kernel
theorem dX3_areMornings_43 : decode cX3_areMornings 43 = .ok (.lcmp, 1) := by decide +kernel
theorem dX3_areMornings_44 : decode cX3_areMornings 44 = .ok (.ifCond .lt 5, 3) := by decide +kernel
theorem dX3_areMornings_47 : decode cX3_areMornings 47 = .ok (.iconst 0, 1) := by decide +kernel
theorem dX3_areMornings_48 : decode cX3_areMornings 48 = .ok (.ireturn, 1) := by decide +kernel
theorem dX3_areMornings_49 : decode cX3_areMornings 49 = .ok (.iinc 3 1, 3) := by decide +kernel
theorem dX3_areMornings_52 : decode cX3_areMornings 52 = .ok (.goto (-39), 3) := by decide +kernel
theorem dX3_areMornings_55 : decode cX3_areMornings 55 = .ok (.iconst 1, 1) := by decide +kernel
theorem dX3_areMornings_56 : decode cX3_areMornings 56 = .ok (.ireturn, 1) := by decide +kernel
theorem dX3_fits_0 : decode cX3_fits 0 = .ok (.iconst 0, 1) := by decide +kernel
theorem dX3_fits_1 : decode cX3_fits 1 = .ok (.istore 5, 2) := by decide +kernel
theorem dX3_fits_3 : decode cX3_fits 3 = .ok (.iload 5, 2) := by decide +kernel
theorem dX3_fits_5 : decode cX3_fits 5 = .ok (.iload_n 2, 1) := by decide +kernel
theorem dX3_fits_6 : decode cX3_fits 6 = .ok (.if_icmp .ge 35, 3) := by decide +kernel
theorem dX3_fits_9 : decode cX3_fits 9 = .ok (.aload_n 1, 1) := by decide +kernel
theorem dX3_fits_10 : decode cX3_fits 10 = .ok (.getfield 84, 3) := by decide +kernel
theorem dX3_fits_13 : decode cX3_fits 13 = .ok (.iload 5, 2) := by decide +kernel
theorem dX3_fits_15 : decode cX3_fits 15 = .ok (.laload, 1) := by decide +kernel
theorem dX3_fits_16 : decode cX3_fits 16 = .ok (.aload_n 0, 1) := by decide +kernel
theorem dX3_fits_17 : decode cX3_fits 17 = .ok (.getfield 10, 3) := by decide +kernel
theorem dX3_fits_20 : decode cX3_fits 20 = .ok (.iload_n 3, 1) := by decide +kernel
theorem dX3_fits_21 : decode cX3_fits 21 = .ok (.iload 4, 2) := by decide +kernel
theorem dX3_fits_23 : decode cX3_fits 23 = .ok (.iload 5, 2) := by decide +kernel
theorem dX3_fits_25 : decode cX3_fits 25 = .ok (.invokevirtual 275, 3) := by decide +kernel
theorem dX3_fits_28 : decode cX3_fits 28 = .ok (.i2l, 1) := by decide +kernel
theorem dX3_fits_29 : decode cX3_fits 29 = .ok (.lcmp, 1) := by decide +kernel
theorem dX3_fits_30 : decode cX3_fits 30 = .ok (.ifCond .eq 5, 3) := by decide +kernel
theorem dX3_fits_33 : decode cX3_fits 33 = .ok (.iconst 0, 1) := by decide +kernel
theorem dX3_fits_34 : decode cX3_fits 34 = .ok (.ireturn, 1) := by decide +kernel
theorem dX3_fits_35 : decode cX3_fits 35 = .ok (.iinc 5 1, 3) := by decide +kernel
theorem dX3_fits_38 : decode cX3_fits 38 = .ok (.goto (-35), 3) := by decide +kernel
theorem dX3_fits_41 : decode cX3_fits 41 = .ok (.iconst 1, 1) := by decide +kernel
theorem dX3_fits_42 : decode cX3_fits 42 = .ok (.ireturn, 1) := by decide +kernel
theorem dX3_seekBestRow_0 : decode cX3_seekBestRow 0 = .ok (.aload_n 0, 1) := by decide +kernel
theorem dX3_seekBestRow_1 : decode cX3_seekBestRow 1 = .ok (.getfield 16, 3) := by decide +kernel
theorem dX3_seekBestRow_4 : decode cX3_seekBestRow 4 = .ok (.aload_n 0, 1) := by decide +kernel
theorem dX3_seekBestRow_5 : decode cX3_seekBestRow 5 = .ok (.getfield 10, 3) := by decide +kernel
theorem dX3_seekBestRow_8 : decode cX3_seekBestRow 8 = .ok (.invokevirtual 165, 3) := by decide +kernel
theorem dX3_seekBestRow_11 : decode cX3_seekBestRow 11 = .ok (.aload_n 0, 1) := by decide +kernel
theorem dX3_seekBestRow_12 : decode cX3_seekBestRow 12 = .ok (.getfield 16, 3) := by decide +kernel
theorem dX3_seekBestRow_15 : decode cX3_seekBestRow 15 = .ok (.iload_n 1, 1) := by decide +kernel
theorem dX3_seekBestRow_16 : decode cX3_seekBestRow 16 = .ok (.invokevirtual 308, 3) := by decide +kernel
theorem dX3_seekBestRow_19 : decode cX3_seekBestRow 19 = .ok (.aload_n 0, 1) := by decide +kernel
theorem dX3_seekBestRow_20 : decode cX3_seekBestRow 20 = .ok (.getfield 16, 3) := by decide +kernel
theorem dX3_seekBestRow_23 : decode cX3_seekBestRow 23 = .ok (.invokevirtual 311, 3) := by decide +kernel
theorem dX3_seekBestRow_26 : decode cX3_seekBestRow 26 = .ok (.istore_n 2, 1) := by decide +kernel
theorem dX3_seekBestRow_27 : decode cX3_seekBestRow 27 = .ok (.iconst (-1), 1) := by decide +kernel
theorem dX3_seekBestRow_28 : decode cX3_seekBestRow 28 = .ok (.istore_n 3, 1) := by decide +kernel
theorem dX3_seekBestRow_29 : decode cX3_seekBestRow 29 = .ok (.iconst 0, 1) := by decide +kernel
theorem dX3_seekBestRow_30 : decode cX3_seekBestRow 30 = .ok (.istore 4, 2) := by decide +kernel
theorem dX3_seekBestRow_32 : decode cX3_seekBestRow 32 = .ok (.iload 4, 2) := by decide +kernel
theorem dX3_seekBestRow_34 : decode cX3_seekBestRow 34 = .ok (.ldc_w 314, 3) := by decide +kernel
theorem dX3_seekBestRow_37 : decode cX3_seekBestRow 37 = .ok (.if_icmp .ge 84, 3) := by decide +kernel
theorem dX3_seekBestRow_40 : decode cX3_seekBestRow 40 = .ok (.aload_n 0, 1) := by decide +kernel
theorem dX3_seekBestRow_41 : decode cX3_seekBestRow 41 = .ok (.getfield 16, 3) := by decide +kernel
theorem dX3_seekBestRow_44 : decode cX3_seekBestRow 44 = .ok (.aload_n 0, 1) := by decide +kernel
theorem dX3_seekBestRow_45 : decode cX3_seekBestRow 45 = .ok (.getfield 16, 3) := by decide +kernel
theorem dX3_seekBestRow_48 : decode cX3_seekBestRow 48 = .ok (.getfield 135, 3) := by decide +kernel
theorem dX3_seekBestRow_51 : decode cX3_seekBestRow 51 = .ok (.iload_n 2, 1) := by decide +kernel
theorem dX3_seekBestRow_52 : decode cX3_seekBestRow 52 = .ok (.aload_n 0, 1) := by decide +kernel
theorem dX3_seekBestRow_53 : decode cX3_seekBestRow 53 = .ok (.getfield 16, 3) := by decide +kernel
theorem dX3_seekBestRow_56 : decode cX3_seekBestRow 56 = .ok (.invokevirtual 315, 3) := by decide +kernel
theorem dX3_seekBestRow_59 : decode cX3_seekBestRow 59 = .ok (.ior, 1) := by decide +kernel
theorem dX3_seekBestRow_60 : decode cX3_seekBestRow 60 = .ok (.iand, 1) := by decide +kernel
theorem dX3_seekBestRow_61 : decode cX3_seekBestRow 61 = .ok (.invokevirtual 195, 3) := by decide +kernel
theorem dX3_seekBestRow_64 : decode cX3_seekBestRow 64 = .ok (.istore 5, 2) := by decide +kernel
theorem dX3_seekBestRow_66 : decode cX3_seekBestRow 66 = .ok (.iload_n 3, 1) := by decide +kernel
theorem dX3_seekBestRow_67 : decode cX3_seekBestRow 67 = .ok (.iconst (-1), 1) := by decide +kernel
theorem dX3_seekBestRow_68 : decode cX3_seekBestRow 68 = .ok (.if_icmp .eq 9, 3) := by decide +kernel
theorem dX3_seekBestRow_71 : decode cX3_seekBestRow 71 = .ok (.iload 5, 2) := by decide +kernel
theorem dX3_seekBestRow_73 : decode cX3_seekBestRow 73 = .ok (.iload_n 3, 1) := by decide +kernel
theorem dX3_seekBestRow_74 : decode cX3_seekBestRow 74 = .ok (.if_icmp .ge 24, 3) := by decide +kernel
theorem dX3_seekBestRow_77 : decode cX3_seekBestRow 77 = .ok (.iload 5, 2) := by decide +kernel
theorem dX3_seekBestRow_79 : decode cX3_seekBestRow 79 = .ok (.istore_n 3, 1) := by decide +kernel
theorem dX3_seekBestRow_80 : decode cX3_seekBestRow 80 = .ok (.aload_n 0, 1) := by decide +kernel
theorem dX3_seekBestRow_81 : decode cX3_seekBestRow 81 = .ok (.getfield 16, 3) := by decide +kernel
theorem dX3_seekBestRow_84 : decode cX3_seekBestRow 84 = .ok (.getfield 138, 3) := by decide +kernel
theorem dX3_seekBestRow_87 : decode cX3_seekBestRow 87 = .ok (.iconst 0, 1) := by decide +kernel
theorem dX3_seekBestRow_88 : decode cX3_seekBestRow 88 = .ok (.aload_n 0, 1) := by decide +kernel
theorem dX3_seekBestRow_89 : decode cX3_seekBestRow 89 = .ok (.getfield 39, 3) := by decide +kernel
theorem dX3_seekBestRow_92 : decode cX3_seekBestRow 92 = .ok (.iconst 0, 1) := by decide +kernel
theorem dX3_seekBestRow_93 : decode cX3_seekBestRow 93 = .ok (.bipush 9, 2) := by decide +kernel
theorem dX3_seekBestRow_95 : decode cX3_seekBestRow 95 = .ok (.invokestatic 88, 3) := by decide +kernel
theorem dX3_seekBestRow_98 : decode cX3_seekBestRow 98 = .ok (.iload_n 3, 1) := by decide +kernel
theorem dX3_seekBestRow_99 : decode cX3_seekBestRow 99 = .ok (.ifCond .eq 22, 3) := by decide +kernel
theorem dX3_seekBestRow_102 : decode cX3_seekBestRow 102 = .ok (.aload_n 0, 1) := by decide +kernel
theorem dX3_seekBestRow_103 : decode cX3_seekBestRow 103 = .ok (.getfield 16, 3) := by decide +kernel
theorem dX3_seekBestRow_106 : decode cX3_seekBestRow 106 = .ok (.invokevirtual 318, 3) := by decide +kernel
theorem dX3_seekBestRow_109 : decode cX3_seekBestRow 109 = .ok (.ifCond .ne 6, 3) := by decide +kernel
theorem dX3_seekBestRow_112 : decode cX3_seekBestRow 112 = .ok (.goto 9, 3) := by decide +kernel
theorem dX3_seekBestRow_115 : decode cX3_seekBestRow 115 = .ok (.iinc 4 1, 3) := by decide +kernel
theorem dX3_seekBestRow_118 : decode cX3_seekBestRow 118 = .ok (.goto (-86), 3) := by decide +kernel
theorem dX3_seekBestRow_121 : decode cX3_seekBestRow 121 = .ok (.iload_n 3, 1) := by decide +kernel
theorem dX3_seekBestRow_122 : decode cX3_seekBestRow 122 = .ok (.ireturn, 1) := by decide +kernel
theorem dX3_leastSaidAgainst_0 : decode cX3_leastSaidAgainst 0 = .ok (.aload_n 0, 1) := by decide +kernel
theorem dX3_leastSaidAgainst_1 : decode cX3_leastSaidAgainst 1 = .ok (.getfield 16, 3) := by decide +kernel
theorem dX3_leastSaidAgainst_4 : decode cX3_leastSaidAgainst 4 = .ok (.aload_n 0, 1) := by decide +kernel
theorem dX3_leastSaidAgainst_5 : decode cX3_leastSaidAgainst 5 = .ok (.getfield 10, 3) := by decide +kernel
theorem dX3_leastSaidAgainst_8 : decode cX3_leastSaidAgainst 8 = .ok (.invokevirtual 165, 3) := by decide +kernel
theorem dX3_leastSaidAgainst_11 : decode cX3_leastSaidAgainst 11 = .ok (.iconst 0, 1) := by decide +kernel
theorem dX3_leastSaidAgainst_12 : decode cX3_leastSaidAgainst 12 = .ok (.istore_n 2, 1) := by decide +kernel
theorem dX3_leastSaidAgainst_13 : decode cX3_leastSaidAgainst 13 = .ok (.iload_n 2, 1) := by decide +kernel
theorem dX3_leastSaidAgainst_14 : decode cX3_leastSaidAgainst 14 = .ok (.bipush 9, 2) := by decide +kernel
theorem dX3_leastSaidAgainst_16 : decode cX3_leastSaidAgainst 16 = .ok (.if_icmp .gt 31, 3) := by decide +kernel
theorem dX3_leastSaidAgainst_19 : decode cX3_leastSaidAgainst 19 = .ok (.aload_n 0, 1) := by decide +kernel
theorem dX3_leastSaidAgainst_20 : decode cX3_leastSaidAgainst 20 = .ok (.getfield 16, 3) := by decide +kernel
theorem dX3_leastSaidAgainst_23 : decode cX3_leastSaidAgainst 23 = .ok (.iload_n 2, 1) := by decide +kernel
theorem dX3_leastSaidAgainst_24 : decode cX3_leastSaidAgainst 24 = .ok (.putfield 141, 3) := by decide +kernel
theorem dX3_leastSaidAgainst_27 : decode cX3_leastSaidAgainst 27 = .ok (.aload_n 0, 1) := by decide +kernel
theorem dX3_leastSaidAgainst_28 : decode cX3_leastSaidAgainst 28 = .ok (.getfield 16, 3) := by decide +kernel
theorem dX3_leastSaidAgainst_31 : decode cX3_leastSaidAgainst 31 = .ok (.invokevirtual 219, 3) := by decide +kernel
theorem dX3_leastSaidAgainst_34 : decode cX3_leastSaidAgainst 34 = .ok (.iload_n 1, 1) := by decide +kernel
theorem dX3_leastSaidAgainst_35 : decode cX3_leastSaidAgainst 35 = .ok (.iand, 1) := by decide +kernel
theorem dX3_leastSaidAgainst_36 : decode cX3_leastSaidAgainst 36 = .ok (.ifCond .ne 5, 3) := by decide +kernel
theorem dX3_leastSaidAgainst_39 : decode cX3_leastSaidAgainst 39 = .ok (.iload_n 2, 1) := by decide +kernel
theorem dX3_leastSaidAgainst_40 : decode cX3_leastSaidAgainst 40 = .ok (.ireturn, 1) := by decide +kernel
theorem dX3_leastSaidAgainst_41 : decode cX3_leastSaidAgainst 41 = .ok (.iinc 2 1, 3) := by decide +kernel
theorem dX3_leastSaidAgainst_44 : decode cX3_leastSaidAgainst 44 = .ok (.goto (-31), 3) := by decide +kernel
theorem dX3_leastSaidAgainst_47 : decode cX3_leastSaidAgainst 47 = .ok (.iconst (-1), 1) := by decide +kernel
theorem dX3_leastSaidAgainst_48 : decode cX3_leastSaidAgainst 48 = .ok (.ireturn, 1) := by decide +kernel
theorem dX3_moreWithout_0 : decode cX3_moreWithout 0 = .ok (.aload_n 0, 1) := by decide +kernel
theorem dX3_moreWithout_1 : decode cX3_moreWithout 1 = .ok (.getfield 16, 3) := by decide +kernel
theorem dX3_moreWithout_4 : decode cX3_moreWithout 4 = .ok (.aload_n 0, 1) := by decide +kernel
theorem dX3_moreWithout_5 : decode cX3_moreWithout 5 = .ok (.getfield 10, 3) := by decide +kernel
theorem dX3_moreWithout_8 : decode cX3_moreWithout 8 = .ok (.invokevirtual 165, 3) := by decide +kernel
theorem dX3_moreWithout_11 : decode cX3_moreWithout 11 = .ok (.aload_n 0, 1) := by decide +kernel
theorem dX3_moreWithout_12 : decode cX3_moreWithout 12 = .ok (.getfield 16, 3) := by decide +kernel
theorem dX3_moreWithout_15 : decode cX3_moreWithout 15 = .ok (.iload_n 1, 1) := by decide +kernel
theorem dX3_moreWithout_16 : decode cX3_moreWithout 16 = .ok (.invokevirtual 156, 3) := by decide +kernel
theorem dX3_moreWithout_19 : decode cX3_moreWithout 19 = .ok (.aload_n 0, 1) := by decide +kernel
theorem dX3_moreWithout_20 : decode cX3_moreWithout 20 = .ok (.getfield 16, 3) := by decide +kernel
theorem dX3_moreWithout_23 : decode cX3_moreWithout 23 = .ok (.invokevirtual 219, 3) := by decide +kernel
theorem dX3_moreWithout_26 : decode cX3_moreWithout 26 = .ok (.invokestatic 148, 3) := by decide +kernel
theorem dX3_moreWithout_29 : decode cX3_moreWithout 29 = .ok (.aload_n 0, 1) := by decide +kernel
theorem dX3_moreWithout_30 : decode cX3_moreWithout 30 = .ok (.getfield 10, 3) := by decide +kernel
theorem dX3_moreWithout_33 : decode cX3_moreWithout 33 = .ok (.invokevirtual 219, 3) := by decide +kernel
theorem dX3_moreWithout_36 : decode cX3_moreWithout 36 = .ok (.invokestatic 148, 3) := by decide +kernel
theorem dX3_moreWithout_39 : decode cX3_moreWithout 39 = .ok (.isub, 1) := by decide +kernel
theorem dX3_moreWithout_40 : decode cX3_moreWithout 40 = .ok (.ireturn, 1) := by decide +kernel
theorem dX3_seekHint_0 : decode cX3_seekHint 0 = .ok (.aload_n 0, 1) := by decide +kernel
theorem dX3_seekHint_1 : decode cX3_seekHint 1 = .ok (.getfield 16, 3) := by decide +kernel
theorem dX3_seekHint_4 : decode cX3_seekHint 4 = .ok (.aload_n 0, 1) := by decide +kernel
theorem dX3_seekHint_5 : decode cX3_seekHint 5 = .ok (.getfield 10, 3) := by decide +kernel
theorem dX3_seekHint_8 : decode cX3_seekHint 8 = .ok (.invokevirtual 165, 3) := by decide +kernel
theorem dX3_seekHint_11 : decode cX3_seekHint 11 = .ok (.iconst 0, 1) := by decide +kernel
theorem dX3_seekHint_12 : decode cX3_seekHint 12 = .ok (.istore_n 1, 1) := by decide +kernel
theorem dX3_seekHint_13 : decode cX3_seekHint 13 = .ok (.iconst 0, 1) := by decide +kernel
theorem dX3_seekHint_14 : decode cX3_seekHint 14 = .ok (.istore_n 2, 1) := by decide +kernel
theorem dX3_seekHint_15 : decode cX3_seekHint 15 = .ok (.iconst 1, 1) := by decide +kernel
theorem dX3_seekHint_16 : decode cX3_seekHint 16 = .ok (.istore_n 3, 1) := by decide +kernel
theorem dX3_seekHint_17 : decode cX3_seekHint 17 = .ok (.iload_n 3, 1) := by decide +kernel
theorem dX3_seekHint_18 : decode cX3_seekHint 18 = .ok (.aload_n 0, 1) := by decide +kernel
theorem dX3_seekHint_19 : decode cX3_seekHint 19 = .ok (.getfield 10, 3) := by decide +kernel
theorem dX3_seekHint_22 : decode cX3_seekHint 22 = .ok (.getfield 135, 3) := by decide +kernel
theorem dX3_seekHint_25 : decode cX3_seekHint 25 = .ok (.if_icmp .gt 86, 3) := by decide +kernel
theorem dX3_seekHint_28 : decode cX3_seekHint 28 = .ok (.iload_n 3, 1) := by decide +kernel
theorem dX3_seekHint_29 : decode cX3_seekHint 29 = .ok (.aload_n 0, 1) := by decide +kernel
theorem dX3_seekHint_30 : decode cX3_seekHint 30 = .ok (.getfield 10, 3) := by decide +kernel
theorem dX3_seekHint_33 : decode cX3_seekHint 33 = .ok (.getfield 135, 3) := by decide +kernel
theorem dX3_seekHint_36 : decode cX3_seekHint 36 = .ok (.iconst (-1), 1) := by decide +kernel
theorem dX3_seekHint_37 : decode cX3_seekHint 37 = .ok (.ixor, 1) := by decide +kernel
theorem dX3_seekHint_38 : decode cX3_seekHint 38 = .ok (.iand, 1) := by decide +kernel
theorem dX3_seekHint_39 : decode cX3_seekHint 39 = .ok (.ifCond .eq 6, 3) := by decide +kernel
theorem dX3_seekHint_42 : decode cX3_seekHint 42 = .ok (.goto 63, 3) := by decide +kernel
theorem dX3_seekHint_45 : decode cX3_seekHint 45 = .ok (.aload_n 0, 1) := by decide +kernel
theorem dX3_seekHint_46 : decode cX3_seekHint 46 = .ok (.getfield 16, 3) := by decide +kernel
theorem dX3_seekHint_49 : decode cX3_seekHint 49 = .ok (.iload_n 3, 1) := by decide +kernel
theorem dX3_seekHint_50 : decode cX3_seekHint 50 = .ok (.putfield 135, 3) := by decide +kernel
theorem dX3_seekHint_53 : decode cX3_seekHint 53 = .ok (.aload_n 0, 1) := by decide +kernel
theorem dX3_seekHint_54 : decode cX3_seekHint 54 = .ok (.getfield 16, 3) := by decide +kernel
theorem dX3_seekHint_57 : decode cX3_seekHint 57 = .ok (.invokevirtual 219, 3) := by decide +kernel
theorem dX3_seekHint_60 : decode cX3_seekHint 60 = .ok (.invokestatic 148, 3) := by decide +kernel
theorem dX3_seekHint_63 : decode cX3_seekHint 63 = .ok (.istore 4, 2) := by decide +kernel
theorem dX3_seekHint_65 : decode cX3_seekHint 65 = .ok (.iload 4, 2) := by decide +kernel
theorem dX3_seekHint_67 : decode cX3_seekHint 67 = .ok (.iload_n 2, 1) := by decide +kernel
theorem dX3_seekHint_68 : decode cX3_seekHint 68 = .ok (.if_icmp .ne 18, 3) := by decide +kernel
theorem dX3_seekHint_71 : decode cX3_seekHint 71 = .ok (.iload_n 3, 1) := by decide +kernel
theorem dX3_seekHint_72 : decode cX3_seekHint 72 = .ok (.invokestatic 148, 3) := by decide +kernel
theorem dX3_seekHint_75 : decode cX3_seekHint 75 = .ok (.iload_n 1, 1) := by decide +kernel
theorem dX3_seekHint_76 : decode cX3_seekHint 76 = .ok (.invokestatic 148, 3) := by decide +kernel
theorem dX3_seekHint_79 : decode cX3_seekHint 79 = .ok (.if_icmp .ge 7, 3) := by decide +kernel
theorem dX3_seekHint_82 : decode cX3_seekHint 82 = .ok (.iconst 1, 1) := by decide +kernel
theorem dX3_seekHint_83 : decode cX3_seekHint 83 = .ok (.goto 4, 3) := by decide +kernel
theorem dX3_seekHint_86 : decode cX3_seekHint 86 = .ok (.iconst 0, 1) := by decide +kernel
theorem dX3_seekHint_87 : decode cX3_seekHint 87 = .ok (.istore 5, 2) := by decide +kernel
theorem dX3_seekHint_89 : decode cX3_seekHint 89 = .ok (.iload 4, 2) := by decide +kernel
theorem dX3_seekHint_91 : decode cX3_seekHint 91 = .ok (.iload_n 2, 1) := by decide +kernel
theorem dX3_seekHint_92 : decode cX3_seekHint 92 = .ok (.if_icmp .gt 8, 3) := by decide +kernel
theorem dX3_seekHint_95 : decode cX3_seekHint 95 = .ok (.iload 5, 2) := by decide +kernel
theorem dX3_seekHint_97 : decode cX3_seekHint 97 = .ok (.ifCond .eq 8, 3) := by decide +kernel
theorem dX3_seekHint_100 : decode cX3_seekHint 100 = .ok (.iload 4, 2) := by decide +kernel
theorem dX3_seekHint_102 : decode cX3_seekHint 102 = .ok (.istore_n 2, 1) := by decide +kernel
theorem dX3_seekHint_103 : decode cX3_seekHint 103 = .ok (.iload_n 3, 1) := by decide +kernel
theorem dX3_seekHint_104 : decode cX3_seekHint 104 = .ok (.istore_n 1, 1) := by decide +kernel
theorem dX3_seekHint_105 : decode cX3_seekHint 105 = .ok (.iinc 3 1, 3) := by decide +kernel
theorem dX3_seekHint_108 : decode cX3_seekHint 108 = .ok (.goto (-91), 3) := by decide +kernel
theorem dX3_seekHint_111 : decode cX3_seekHint 111 = .ok (.iload_n 1, 1) := by decide +kernel
theorem dX3_seekHint_112 : decode cX3_seekHint 112 = .ok (.ireturn, 1) := by decide +kernel
theorem dX3_surprisesTold_0 : decode cX3_surprisesTold 0 = .ok (.aload_n 0, 1) := by decide +kernel
theorem dX3_surprisesTold_1 : decode cX3_surprisesTold 1 = .ok (.getfield 16, 3) := by decide +kernel
theorem dX3_surprisesTold_4 : decode cX3_surprisesTold 4 = .ok (.aload_n 0, 1) := by decide +kernel
theorem dX3_surprisesTold_5 : decode cX3_surprisesTold 5 = .ok (.getfield 10, 3) := by decide +kernel
theorem dX3_surprisesTold_8 : decode cX3_surprisesTold 8 = .ok (.invokevirtual 165, 3) := by decide +kernel
theorem dX3_surprisesTold_11 : decode cX3_surprisesTold 11 = .ok (.aload_n 0, 1) := by decide +kernel
theorem dX3_surprisesTold_12 : decode cX3_surprisesTold 12 = .ok (.getfield 16, 3) := by decide +kernel
theorem dX3_surprisesTold_15 : decode cX3_surprisesTold 15 = .ok (.iload_n 1, 1) := by decide +kernel
theorem dX3_surprisesTold_16 : decode cX3_surprisesTold 16 = .ok (.putfield 135, 3) := by decide +kernel
theorem dX3_surprisesTold_19 : decode cX3_surprisesTold 19 = .ok (.aload_n 0, 1) := by decide +kernel
theorem dX3_surprisesTold_20 : decode cX3_surprisesTold 20 = .ok (.getfield 16, 3) := by decide +kernel
theorem dX3_surprisesTold_23 : decode cX3_surprisesTold 23 = .ok (.invokevirtual 219, 3) := by decide +kernel
theorem dX3_surprisesTold_26 : decode cX3_surprisesTold 26 = .ok (.invokestatic 148, 3) := by decide +kernel
theorem dX3_surprisesTold_29 : decode cX3_surprisesTold 29 = .ok (.ireturn, 1) := by decide +kernel
theorem dX3_isWithin_0 : decode cX3_isWithin 0 = .ok (.iload_n 0, 1) := by decide +kernel
theorem dX3_isWithin_1 : decode cX3_isWithin 1 = .ok (.iload_n 1, 1) := by decide +kernel
theorem dX3_isWithin_2 : decode cX3_isWithin 2 = .ok (.if_icmp .lt 12, 3) := by decide +kernel
theorem dX3_isWithin_5 : decode cX3_isWithin 5 = .ok (.iload_n 0, 1) := by decide +kernel
theorem dX3_isWithin_6 : decode cX3_isWithin 6 = .ok (.iload_n 2, 1) := by decide +kernel
theorem dX3_isWithin_7 : decode cX3_isWithin 7 = .ok (.if_icmp .gt 7, 3) := by decide +kernel
theorem dX3_isWithin_10 : decode cX3_isWithin 10 = .ok (.iconst 1, 1) := by decide +kernel
theorem dX3_isWithin_11 : decode cX3_isWithin 11 = .ok (.goto 4, 3) := by decide +kernel
theorem dX3_isWithin_14 : decode cX3_isWithin 14 = .ok (.iconst 0, 1) := by decide +kernel
theorem dX3_isWithin_15 : decode cX3_isWithin 15 = .ok (.ireturn, 1) := by decide +kernel
theorem dX3_isShelf_0 : decode cX3_isShelf 0 = .ok (.iload_n 0, 1) := by decide +kernel
theorem dX3_isShelf_1 : decode cX3_isShelf 1 = .ok (.iconst 0, 1) := by decide +kernel
theorem dX3_isShelf_2 : decode cX3_isShelf 2 = .ok (.bipush 7, 2) := by decide +kernel
theorem dX3_isShelf_4 : decode cX3_isShelf 4 = .ok (.invokestatic 47, 3) := by decide +kernel
theorem dX3_isShelf_7 : decode cX3_isShelf 7 = .ok (.ireturn, 1) := by decide +kernel
theorem dX3_isKind_0 : decode cX3_isKind 0 = .ok (.iload_n 0, 1) := by decide +kernel
theorem dX3_isKind_1 : decode cX3_isKind 1 = .ok (.iconst 0, 1) := by decide +kernel
theorem dX3_isKind_2 : decode cX3_isKind 2 = .ok (.iconst 5, 1) := by decide +kernel
theorem dX3_isKind_3 : decode cX3_isKind 3 = .ok (.invokestatic 47, 3) := by decide +kernel
theorem dX3_isKind_6 : decode cX3_isKind 6 = .ok (.ireturn, 1) := by decide +kernel
theorem dX3_isCoin_0 : decode cX3_isCoin 0 = .ok (.iload_n 0, 1) := by decide +kernel
theorem dX3_isCoin_1 : decode cX3_isCoin 1 = .ok (.iconst 1, 1) := by decide +kernel
theorem dX3_isCoin_2 : decode cX3_isCoin 2 = .ok (.bipush 40, 2) := by decide +kernel
theorem dX3_isCoin_4 : decode cX3_isCoin 4 = .ok (.invokestatic 47, 3) := by decide +kernel
theorem dX3_isCoin_7 : decode cX3_isCoin 7 = .ok (.ireturn, 1) := by decide +kernel
theorem dX3_isOfKind_0 : decode cX3_isOfKind 0 = .ok (.iload_n 0, 1) := by decide +kernel
theorem dX3_isOfKind_1 : decode cX3_isOfKind 1 = .ok (.istore_n 2, 1) := by decide +kernel
theorem dX3_isOfKind_2 : decode cX3_isOfKind 2 = .ok (.iconst 0, 1) := by decide +kernel
theorem dX3_isOfKind_3 : decode cX3_isOfKind 3 = .ok (.istore_n 3, 1) := by decide +kernel
theorem dX3_isOfKind_4 : decode cX3_isOfKind 4 = .ok (.iload_n 3, 1) := by decide +kernel
theorem dX3_isOfKind_5 : decode cX3_isOfKind 5 = .ok (.getstatic 321, 3) := by decide +kernel
theorem dX3_isOfKind_8 : decode cX3_isOfKind 8 = .ok (.arraylength, 1) := by decide +kernel
theorem dX3_isOfKind_9 : decode cX3_isOfKind 9 = .ok (.if_icmp .ge 36, 3) := by decide +kernel
theorem dX3_isOfKind_12 : decode cX3_isOfKind 12 = .ok (.iload_n 2, 1) := by decide +kernel
theorem dX3_isOfKind_13 : decode cX3_isOfKind 13 = .ok (.iload_n 1, 1) := by decide +kernel
theorem dX3_isOfKind_14 : decode cX3_isOfKind 14 = .ok (.if_icmp .ne 5, 3) := by decide +kernel
theorem dX3_isOfKind_17 : decode cX3_isOfKind 17 = .ok (.iconst 1, 1) := by decide +kernel
theorem dX3_isOfKind_18 : decode cX3_isOfKind 18 = .ok (.ireturn, 1) := by decide +kernel
theorem dX3_isOfKind_19 : decode cX3_isOfKind 19 = .ok (.iload_n 2, 1) := by decide +kernel
theorem dX3_isOfKind_20 : decode cX3_isOfKind 20 = .ok (.ifCond .lt 11, 3) := by decide +kernel
theorem dX3_isOfKind_23 : decode cX3_isOfKind 23 = .ok (.iload_n 2, 1) := by decide +kernel
theorem dX3_isOfKind_24 : decode cX3_isOfKind 24 = .ok (.getstatic 321, 3) := by decide +kernel
theorem dX3_isOfKind_27 : decode cX3_isOfKind 27 = .ok (.arraylength, 1) := by decide +kernel
theorem dX3_isOfKind_28 : decode cX3_isOfKind 28 = .ok (.if_icmp .lt 5, 3) := by decide +kernel
theorem dX3_isOfKind_31 : decode cX3_isOfKind 31 = .ok (.iconst 0, 1) := by decide +kernel
theorem dX3_isOfKind_32 : decode cX3_isOfKind 32 = .ok (.ireturn, 1) := by decide +kernel
theorem dX3_isOfKind_33 : decode cX3_isOfKind 33 = .ok (.getstatic 321, 3) := by decide +kernel
theorem dX3_isOfKind_36 : decode cX3_isOfKind 36 = .ok (.iload_n 2, 1) := by decide +kernel
theorem dX3_isOfKind_37 : decode cX3_isOfKind 37 = .ok (.iaload, 1) := by decide +kernel
theorem dX3_isOfKind_38 : decode cX3_isOfKind 38 = .ok (.istore_n 2, 1) := by decide +kernel
theorem dX3_isOfKind_39 : decode cX3_isOfKind 39 = .ok (.iinc 3 1, 3) := by decide +kernel
theorem dX3_isOfKind_42 : decode cX3_isOfKind 42 = .ok (.goto (-38), 3) := by decide +kernel
theorem dX3_isOfKind_45 : decode cX3_isOfKind 45 = .ok (.iconst 0, 1) := by decide +kernel
theorem dX3_isOfKind_46 : decode cX3_isOfKind 46 = .ok (.ireturn, 1) := by decide +kernel
theorem dX3_isIn_0 : decode cX3_isIn 0 = .ok (.iload_n 1, 1) := by decide +kernel
theorem dX3_isIn_1 : decode cX3_isIn 1 = .ok (.ifCond .lt 22, 3) := by decide +kernel
theorem dX3_isIn_4 : decode cX3_isIn 4 = .ok (.iload_n 1, 1) := by decide +kernel
theorem dX3_isIn_5 : decode cX3_isIn 5 = .ok (.bipush 9, 2) := by decide +kernel
theorem dX3_isIn_7 : decode cX3_isIn 7 = .ok (.if_icmp .ge 16, 3) := by decide +kernel
theorem dX3_isIn_10 : decode cX3_isIn 10 = .ok (.iload_n 0, 1) := by decide +kernel
theorem dX3_isIn_11 : decode cX3_isIn 11 = .ok (.iload_n 1, 1) := by decide +kernel
theorem dX3_isIn_12 : decode cX3_isIn 12 = .ok (.ishr, 1) := by decide +kernel
theorem dX3_isIn_13 : decode cX3_isIn 13 = .ok (.iconst 1, 1) := by decide +kernel
theorem dX3_isIn_14 : decode cX3_isIn 14 = .ok (.iand, 1) := by decide +kernel
theorem dX3_isIn_15 : decode cX3_isIn 15 = .ok (.iconst 1, 1) := by decide +kernel
theorem dX3_isIn_16 : decode cX3_isIn 16 = .ok (.if_icmp .ne 7, 3) := by decide +kernel
theorem dX3_isIn_19 : decode cX3_isIn 19 = .ok (.iconst 1, 1) := by decide +kernel
theorem dX3_isIn_20 : decode cX3_isIn 20 = .ok (.goto 4, 3) := by decide +kernel
theorem dX3_isIn_23 : decode cX3_isIn 23 = .ok (.iconst 0, 1) := by decide +kernel
theorem dX3_isIn_24 : decode cX3_isIn 24 = .ok (.ireturn, 1) := by decide +kernel
theorem dX3_firstOf_0 : decode cX3_firstOf 0 = .ok (.iconst 0, 1) := by decide +kernel
theorem dX3_firstOf_1 : decode cX3_firstOf 1 = .ok (.istore_n 1, 1) := by decide +kernel
theorem dX3_firstOf_2 : decode cX3_firstOf 2 = .ok (.iload_n 1, 1) := by decide +kernel
theorem dX3_firstOf_3 : decode cX3_firstOf 3 = .ok (.bipush 9, 2) := by decide +kernel
theorem dX3_firstOf_5 : decode cX3_firstOf 5 = .ok (.if_icmp .ge 19, 3) := by decide +kernel
theorem dX3_firstOf_8 : decode cX3_firstOf 8 = .ok (.iload_n 0, 1) := by decide +kernel
theorem dX3_firstOf_9 : decode cX3_firstOf 9 = .ok (.iload_n 1, 1) := by decide +kernel
theorem dX3_firstOf_10 : decode cX3_firstOf 10 = .ok (.invokestatic 201, 3) := by decide +kernel
theorem dX3_firstOf_13 : decode cX3_firstOf 13 = .ok (.ifCond .eq 5, 3) := by decide +kernel
theorem dX3_firstOf_16 : decode cX3_firstOf 16 = .ok (.iload_n 1, 1) := by decide +kernel
theorem dX3_firstOf_17 : decode cX3_firstOf 17 = .ok (.ireturn, 1) := by decide +kernel
theorem dX3_firstOf_18 : decode cX3_firstOf 18 = .ok (.iinc 1 1, 3) := by decide +kernel
theorem dX3_firstOf_21 : decode cX3_firstOf 21 = .ok (.goto (-19), 3) := by decide +kernel
theorem dX3_firstOf_24 : decode cX3_firstOf 24 = .ok (.iconst (-1), 1) := by decide +kernel
theorem dX3_firstOf_25 : decode cX3_firstOf 25 = .ok (.ireturn, 1) := by decide +kernel
theorem dX3_lastOf_0 : decode cX3_lastOf 0 = .ok (.bipush 8, 2) := by decide +kernel
theorem dX3_lastOf_2 : decode cX3_lastOf 2 = .ok (.istore_n 1, 1) := by decide +kernel
theorem dX3_lastOf_3 : decode cX3_lastOf 3 = .ok (.iload_n 1, 1) := by decide +kernel
theorem dX3_lastOf_4 : decode cX3_lastOf 4 = .ok (.ifCond .lt 19, 3) := by decide +kernel
theorem dX3_lastOf_7 : decode cX3_lastOf 7 = .ok (.iload_n 0, 1) := by decide +kernel
theorem dX3_lastOf_8 : decode cX3_lastOf 8 = .ok (.iload_n 1, 1) := by decide +kernel
theorem dX3_lastOf_9 : decode cX3_lastOf 9 = .ok (.invokestatic 201, 3) := by decide +kernel
theorem dX3_lastOf_12 : decode cX3_lastOf 12 = .ok (.ifCond .eq 5, 3) := by decide +kernel
theorem dX3_lastOf_15 : decode cX3_lastOf 15 = .ok (.iload_n 1, 1) := by decide +kernel
theorem dX3_lastOf_16 : decode cX3_lastOf 16 = .ok (.ireturn, 1) := by decide +kernel
theorem dX3_lastOf_17 : decode cX3_lastOf 17 = .ok (.iinc 1 (-1), 3) := by decide +kernel
theorem dX3_lastOf_20 : decode cX3_lastOf 20 = .ok (.goto (-17), 3) := by decide +kernel
theorem dX3_lastOf_23 : decode cX3_lastOf 23 = .ok (.iconst (-1), 1) := by decide +kernel
theorem dX3_lastOf_24 : decode cX3_lastOf 24 = .ok (.ireturn, 1) := by decide +kernel
theorem dX3_shareOf_0 : decode cX3_shareOf 0 = .ok (.iload_n 1, 1) := by decide +kernel
theorem dX3_shareOf_1 : decode cX3_shareOf 1 = .ok (.ifCond .ne 7, 3) := by decide +kernel
theorem dX3_shareOf_4 : decode cX3_shareOf 4 = .ok (.iconst (-1), 1) := by decide +kernel
theorem dX3_shareOf_5 : decode cX3_shareOf 5 = .ok (.goto 10, 3) := by decide +kernel
theorem dX3_shareOf_8 : decode cX3_shareOf 8 = .ok (.ldc_w 324, 3) := by decide +kernel
theorem dX3_shareOf_11 : decode cX3_shareOf 11 = .ok (.iload_n 0, 1) := by decide +kernel
theorem dX3_shareOf_12 : decode cX3_shareOf 12 = .ok (.imul, 1) := by decide +kernel
theorem dX3_shareOf_13 : decode cX3_shareOf 13 = .ok (.iload_n 1, 1) := by decide +kernel
theorem dX3_shareOf_14 : decode cX3_shareOf 14 = .ok (.idiv, 1) := by decide +kernel
theorem dX3_shareOf_15 : decode cX3_shareOf 15 = .ok (.ireturn, 1) := by decide +kernel
theorem dX3_wagered_0 : decode cX3_wagered 0 = .ok (.iload_n 0, 1) := by decide +kernel
theorem dX3_wagered_1 : decode cX3_wagered 1 = .ok (.iload_n 1, 1) := by decide +kernel
theorem dX3_wagered_2 : decode cX3_wagered 2 = .ok (.imul, 1) := by decide +kernel
theorem dX3_wagered_3 : decode cX3_wagered 3 = .ok (.iload_n 2, 1) := by decide +kernel
theorem dX3_wagered_4 : decode cX3_wagered 4 = .ok (.invokestatic 230, 3) := by decide +kernel
theorem dX3_wagered_7 : decode cX3_wagered 7 = .ok (.ldc_w 324, 3) := by decide +kernel
theorem dX3_wagered_10 : decode cX3_wagered 10 = .ok (.isub, 1) := by decide +kernel
theorem dX3_wagered_11 : decode cX3_wagered 11 = .ok (.ireturn, 1) := by decide +kernel
theorem dX4_init_0 : decode cX4_init 0 = .ok (.aload_n 0, 1) := by decide +kernel
theorem dX4_init_1 : decode cX4_init 1 = .ok (.invokespecial 1, 3) := by decide +kernel
theorem dX4_init_4 : decode cX4_init 4 = .ok (.aload_n 0, 1) := by decide +kernel
theorem dX4_init_5 : decode cX4_init 5 = .ok (.bipush 8, 2) := by decide +kernel
theorem dX4_init_7 : decode cX4_init 7 = .ok (.newarray .int, 2) := by decide +kernel
theorem dX4_init_9 : decode cX4_init 9 = .ok (.putfield 7, 3) := by decide +kernel
theorem dX4_init_12 : decode cX4_init 12 = .ok (.aload_n 0, 1) := by decide +kernel
theorem dX4_init_13 : decode cX4_init 13 = .ok (.bipush 8, 2) := by decide +kernel
