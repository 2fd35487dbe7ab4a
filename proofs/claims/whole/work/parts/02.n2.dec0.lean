theorem dX0_init_0 : decode cX0_init 0 = .ok (.aload_n 0, 1) := by decide +kernel
theorem dX0_init_1 : decode cX0_init 1 = .ok (.invokespecial 3, 3) := by decide +kernel
theorem dX0_init_4 : decode cX0_init 4 = .ok (.aload_n 0, 1) := by decide +kernel
theorem dX0_init_5 : decode cX0_init 5 = .ok (.bipush 9, 2) := by decide +kernel
theorem dX0_init_7 : decode cX0_init 7 = .ok (.newarray .int, 2) := by decide +kernel
theorem dX0_init_9 : decode cX0_init 9 = .ok (.putfield 9, 3) := by decide +kernel
theorem dX0_init_12 : decode cX0_init 12 = .ok (.aload_n 0, 1) := by decide +kernel
theorem dX0_init_13 : decode cX0_init 13 = .ok (.iconst 1, 1) := by decide +kernel
theorem dX0_init_14 : decode cX0_init 14 = .ok (.putfield 15, 3) := by decide +kernel
theorem dX0_init_17 : decode cX0_init 17 = .ok (.aload_n 0, 1) := by decide +kernel
theorem dX0_init_18 : decode cX0_init 18 = .ok (.bipush 6, 2) := by decide +kernel
theorem dX0_init_20 : decode cX0_init 20 = .ok (.newarray .int, 2) := by decide +kernel
theorem dX0_init_22 : decode cX0_init 22 = .ok (.putfield 19, 3) := by decide +kernel
theorem dX0_init_25 : decode cX0_init 25 = .ok (.aload_n 0, 1) := by decide +kernel
theorem dX0_init_26 : decode cX0_init 26 = .ok (.bipush 6, 2) := by decide +kernel
theorem dX0_init_28 : decode cX0_init 28 = .ok (.newarray .int, 2) := by decide +kernel
theorem dX0_init_30 : decode cX0_init 30 = .ok (.putfield 22, 3) := by decide +kernel
theorem dX0_init_33 : decode cX0_init 33 = .ok (.aload_n 0, 1) := by decide +kernel
theorem dX0_init_34 : decode cX0_init 34 = .ok (.iconst 1, 1) := by decide +kernel
theorem dX0_init_35 : decode cX0_init 35 = .ok (.putfield 25, 3) := by decide +kernel
theorem dX0_init_38 : decode cX0_init 38 = .ok (.aload_n 0, 1) := by decide +kernel
theorem dX0_init_39 : decode cX0_init 39 = .ok (.iconst 5, 1) := by decide +kernel
theorem dX0_init_40 : decode cX0_init 40 = .ok (.invokevirtual 28, 3) := by decide +kernel
theorem dX0_init_43 : decode cX0_init 43 = .ok (.return_, 1) := by decide +kernel
theorem dX0_become_0 : decode cX0_become 0 = .ok (.aload_n 0, 1) := by decide +kernel
theorem dX0_become_1 : decode cX0_become 1 = .ok (.aload_n 1, 1) := by decide +kernel
theorem dX0_become_2 : decode cX0_become 2 = .ok (.getfield 32, 3) := by decide +kernel
theorem dX0_become_5 : decode cX0_become 5 = .ok (.putfield 32, 3) := by decide +kernel
theorem dX0_become_8 : decode cX0_become 8 = .ok (.aload_n 0, 1) := by decide +kernel
theorem dX0_become_9 : decode cX0_become 9 = .ok (.aload_n 1, 1) := by decide +kernel
theorem dX0_become_10 : decode cX0_become 10 = .ok (.getfield 35, 3) := by decide +kernel
theorem dX0_become_13 : decode cX0_become 13 = .ok (.putfield 35, 3) := by decide +kernel
theorem dX0_become_16 : decode cX0_become 16 = .ok (.aload_n 1, 1) := by decide +kernel
theorem dX0_become_17 : decode cX0_become 17 = .ok (.getfield 9, 3) := by decide +kernel
theorem dX0_become_20 : decode cX0_become 20 = .ok (.iconst 0, 1) := by decide +kernel
theorem dX0_become_21 : decode cX0_become 21 = .ok (.aload_n 0, 1) := by decide +kernel
theorem dX0_become_22 : decode cX0_become 22 = .ok (.getfield 9, 3) := by decide +kernel
theorem dX0_become_25 : decode cX0_become 25 = .ok (.iconst 0, 1) := by decide +kernel
theorem dX0_become_26 : decode cX0_become 26 = .ok (.bipush 9, 2) := by decide +kernel
theorem dX0_become_28 : decode cX0_become 28 = .ok (.invokestatic 38, 3) := by decide +kernel
theorem dX0_become_31 : decode cX0_become 31 = .ok (.aload_n 0, 1) := by decide +kernel
theorem dX0_become_32 : decode cX0_become 32 = .ok (.aload_n 1, 1) := by decide +kernel
theorem dX0_become_33 : decode cX0_become 33 = .ok (.getfield 15, 3) := by decide +kernel
theorem dX0_become_36 : decode cX0_become 36 = .ok (.putfield 15, 3) := by decide +kernel
theorem dX0_become_39 : decode cX0_become 39 = .ok (.aload_n 0, 1) := by decide +kernel
theorem dX0_become_40 : decode cX0_become 40 = .ok (.aload_n 1, 1) := by decide +kernel
theorem dX0_become_41 : decode cX0_become 41 = .ok (.getfield 44, 3) := by decide +kernel
theorem dX0_become_44 : decode cX0_become 44 = .ok (.putfield 44, 3) := by decide +kernel
theorem dX0_become_47 : decode cX0_become 47 = .ok (.aload_n 1, 1) := by decide +kernel
theorem dX0_become_48 : decode cX0_become 48 = .ok (.getfield 19, 3) := by decide +kernel
theorem dX0_become_51 : decode cX0_become 51 = .ok (.iconst 0, 1) := by decide +kernel
theorem dX0_become_52 : decode cX0_become 52 = .ok (.aload_n 0, 1) := by decide +kernel
theorem dX0_become_53 : decode cX0_become 53 = .ok (.getfield 19, 3) := by decide +kernel
theorem dX0_become_56 : decode cX0_become 56 = .ok (.iconst 0, 1) := by decide +kernel
theorem dX0_become_57 : decode cX0_become 57 = .ok (.bipush 6, 2) := by decide +kernel
theorem dX0_become_59 : decode cX0_become 59 = .ok (.invokestatic 38, 3) := by decide +kernel
theorem dX0_become_62 : decode cX0_become 62 = .ok (.aload_n 1, 1) := by decide +kernel
theorem dX0_become_63 : decode cX0_become 63 = .ok (.getfield 22, 3) := by decide +kernel
theorem dX0_become_66 : decode cX0_become 66 = .ok (.iconst 0, 1) := by decide +kernel
theorem dX0_become_67 : decode cX0_become 67 = .ok (.aload_n 0, 1) := by decide +kernel
theorem dX0_become_68 : decode cX0_become 68 = .ok (.getfield 22, 3) := by decide +kernel
theorem dX0_become_71 : decode cX0_become 71 = .ok (.iconst 0, 1) := by decide +kernel
theorem dX0_become_72 : decode cX0_become 72 = .ok (.bipush 6, 2) := by decide +kernel
theorem dX0_become_74 : decode cX0_become 74 = .ok (.invokestatic 38, 3) := by decide +kernel
theorem dX0_become_77 : decode cX0_become 77 = .ok (.aload_n 0, 1) := by decide +kernel
theorem dX0_become_78 : decode cX0_become 78 = .ok (.aload_n 1, 1) := by decide +kernel
theorem dX0_become_79 : decode cX0_become 79 = .ok (.getfield 25, 3) := by decide +kernel
theorem dX0_become_82 : decode cX0_become 82 = .ok (.putfield 25, 3) := by decide +kernel
theorem dX0_become_85 : decode cX0_become 85 = .ok (.aload_n 0, 1) := by decide +kernel
theorem dX0_become_86 : decode cX0_become 86 = .ok (.aload_n 1, 1) := by decide +kernel
theorem dX0_become_87 : decode cX0_become 87 = .ok (.getfield 47, 3) := by decide +kernel
theorem dX0_become_90 : decode cX0_become 90 = .ok (.putfield 47, 3) := by decide +kernel
theorem dX0_become_93 : decode cX0_become 93 = .ok (.aload_n 0, 1) := by decide +kernel
theorem dX0_become_94 : decode cX0_become 94 = .ok (.aload_n 1, 1) := by decide +kernel
theorem dX0_become_95 : decode cX0_become 95 = .ok (.getfield 50, 3) := by decide +kernel
theorem dX0_become_98 : decode cX0_become 98 = .ok (.putfield 50, 3) := by decide +kernel
theorem dX0_become_101 : decode cX0_become 101 = .ok (.aload_n 0, 1) := by decide +kernel
theorem dX0_become_102 : decode cX0_become 102 = .ok (.aload_n 1, 1) := by decide +kernel
theorem dX0_become_103 : decode cX0_become 103 = .ok (.getfield 53, 3) := by decide +kernel
theorem dX0_become_106 : decode cX0_become 106 = .ok (.putfield 53, 3) := by decide +kernel
theorem dX0_become_109 : decode cX0_become 109 = .ok (.return_, 1) := by decide +kernel
theorem dX0_beginTerm_0 : decode cX0_beginTerm 0 = .ok (.aload_n 0, 1) := by decide +kernel
theorem dX0_beginTerm_1 : decode cX0_beginTerm 1 = .ok (.iload_n 1, 1) := by decide +kernel
theorem dX0_beginTerm_2 : decode cX0_beginTerm 2 = .ok (.putfield 32, 3) := by decide +kernel
theorem dX0_beginTerm_5 : decode cX0_beginTerm 5 = .ok (.aload_n 0, 1) := by decide +kernel
theorem dX0_beginTerm_6 : decode cX0_beginTerm 6 = .ok (.aload_n 0, 1) := by decide +kernel
theorem dX0_beginTerm_7 : decode cX0_beginTerm 7 = .ok (.invokevirtual 56, 3) := by decide +kernel
theorem dX0_beginTerm_10 : decode cX0_beginTerm 10 = .ok (.putfield 35, 3) := by decide +kernel
theorem dX0_beginTerm_13 : decode cX0_beginTerm 13 = .ok (.iconst 0, 1) := by decide +kernel
theorem dX0_beginTerm_14 : decode cX0_beginTerm 14 = .ok (.istore_n 2, 1) := by decide +kernel
theorem dX0_beginTerm_15 : decode cX0_beginTerm 15 = .ok (.iload_n 2, 1) := by decide +kernel
theorem dX0_beginTerm_16 : decode cX0_beginTerm 16 = .ok (.bipush 9, 2) := by decide +kernel
theorem dX0_beginTerm_18 : decode cX0_beginTerm 18 = .ok (.if_icmp .ge 16, 3) := by decide +kernel
theorem dX0_beginTerm_21 : decode cX0_beginTerm 21 = .ok (.aload_n 0, 1) := by decide +kernel
theorem dX0_beginTerm_22 : decode cX0_beginTerm 22 = .ok (.getfield 9, 3) := by decide +kernel
theorem dX0_beginTerm_25 : decode cX0_beginTerm 25 = .ok (.iload_n 2, 1) := by decide +kernel
theorem dX0_beginTerm_26 : decode cX0_beginTerm 26 = .ok (.iconst 1, 1) := by decide +kernel
theorem dX0_beginTerm_27 : decode cX0_beginTerm 27 = .ok (.iastore, 1) := by decide +kernel
theorem dX0_beginTerm_28 : decode cX0_beginTerm 28 = .ok (.iinc 2 1, 3) := by decide +kernel
theorem dX0_beginTerm_31 : decode cX0_beginTerm 31 = .ok (.goto (-16), 3) := by decide +kernel
theorem dX0_beginTerm_34 : decode cX0_beginTerm 34 = .ok (.return_, 1) := by decide +kernel
theorem dX0_addSomebody_0 : decode cX0_addSomebody 0 = .ok (.aload_n 0, 1) := by decide +kernel
theorem dX0_addSomebody_1 : decode cX0_addSomebody 1 = .ok (.getfield 44, 3) := by decide +kernel
theorem dX0_addSomebody_4 : decode cX0_addSomebody 4 = .ok (.bipush 6, 2) := by decide +kernel
theorem dX0_addSomebody_6 : decode cX0_addSomebody 6 = .ok (.if_icmp .ge 33, 3) := by decide +kernel
theorem dX0_addSomebody_9 : decode cX0_addSomebody 9 = .ok (.aload_n 0, 1) := by decide +kernel
theorem dX0_addSomebody_10 : decode cX0_addSomebody 10 = .ok (.getfield 19, 3) := by decide +kernel
theorem dX0_addSomebody_13 : decode cX0_addSomebody 13 = .ok (.aload_n 0, 1) := by decide +kernel
theorem dX0_addSomebody_14 : decode cX0_addSomebody 14 = .ok (.getfield 44, 3) := by decide +kernel
theorem dX0_addSomebody_17 : decode cX0_addSomebody 17 = .ok (.iload_n 1, 1) := by decide +kernel
theorem dX0_addSomebody_18 : decode cX0_addSomebody 18 = .ok (.iastore, 1) := by decide +kernel
theorem dX0_addSomebody_19 : decode cX0_addSomebody 19 = .ok (.aload_n 0, 1) := by decide +kernel
theorem dX0_addSomebody_20 : decode cX0_addSomebody 20 = .ok (.getfield 22, 3) := by decide +kernel
theorem dX0_addSomebody_23 : decode cX0_addSomebody 23 = .ok (.aload_n 0, 1) := by decide +kernel
theorem dX0_addSomebody_24 : decode cX0_addSomebody 24 = .ok (.getfield 44, 3) := by decide +kernel
theorem dX0_addSomebody_27 : decode cX0_addSomebody 27 = .ok (.iload_n 2, 1) := by decide +kernel
theorem dX0_addSomebody_28 : decode cX0_addSomebody 28 = .ok (.iastore, 1) := by decide +kernel
theorem dX0_addSomebody_29 : decode cX0_addSomebody 29 = .ok (.aload_n 0, 1) := by decide +kernel
theorem dX0_addSomebody_30 : decode cX0_addSomebody 30 = .ok (.dup, 1) := by decide +kernel
theorem dX0_addSomebody_31 : decode cX0_addSomebody 31 = .ok (.getfield 44, 3) := by decide +kernel
theorem dX0_addSomebody_34 : decode cX0_addSomebody 34 = .ok (.iconst 1, 1) := by decide +kernel
theorem dX0_addSomebody_35 : decode cX0_addSomebody 35 = .ok (.iadd, 1) := by decide +kernel
theorem dX0_addSomebody_36 : decode cX0_addSomebody 36 = .ok (.putfield 44, 3) := by decide +kernel
theorem dX0_addSomebody_39 : decode cX0_addSomebody 39 = .ok (.return_, 1) := by decide +kernel
theorem dX0_removeSomebody_0 : decode cX0_removeSomebody 0 = .ok (.aload_n 0, 1) := by decide +kernel
theorem dX0_removeSomebody_1 : decode cX0_removeSomebody 1 = .ok (.iload_n 1, 1) := by decide +kernel
theorem dX0_removeSomebody_2 : decode cX0_removeSomebody 2 = .ok (.invokevirtual 60, 3) := by decide +kernel
theorem dX0_removeSomebody_5 : decode cX0_removeSomebody 5 = .ok (.ifCond .ne 4, 3) := by decide +kernel
theorem dX0_removeSomebody_8 : decode cX0_removeSomebody 8 = .ok (.return_, 1) := by decide +kernel
theorem dX0_removeSomebody_9 : decode cX0_removeSomebody 9 = .ok (.iload_n 1, 1) := by decide +kernel
theorem dX0_removeSomebody_10 : decode cX0_removeSomebody 10 = .ok (.iconst 1, 1) := by decide +kernel
theorem dX0_removeSomebody_11 : decode cX0_removeSomebody 11 = .ok (.iadd, 1) := by decide +kernel
theorem dX0_removeSomebody_12 : decode cX0_removeSomebody 12 = .ok (.istore_n 2, 1) := by decide +kernel
theorem dX0_removeSomebody_13 : decode cX0_removeSomebody 13 = .ok (.iload_n 2, 1) := by decide +kernel
theorem dX0_removeSomebody_14 : decode cX0_removeSomebody 14 = .ok (.aload_n 0, 1) := by decide +kernel
theorem dX0_removeSomebody_15 : decode cX0_removeSomebody 15 = .ok (.getfield 44, 3) := by decide +kernel
theorem dX0_removeSomebody_18 : decode cX0_removeSomebody 18 = .ok (.if_icmp .ge 37, 3) := by decide +kernel
theorem dX0_removeSomebody_21 : decode cX0_removeSomebody 21 = .ok (.aload_n 0, 1) := by decide +kernel
theorem dX0_removeSomebody_22 : decode cX0_removeSomebody 22 = .ok (.getfield 19, 3) := by decide +kernel
theorem dX0_removeSomebody_25 : decode cX0_removeSomebody 25 = .ok (.iload_n 2, 1) := by decide +kernel
theorem dX0_removeSomebody_26 : decode cX0_removeSomebody 26 = .ok (.iconst 1, 1) := by decide +kernel
theorem dX0_removeSomebody_27 : decode cX0_removeSomebody 27 = .ok (.isub, 1) := by decide +kernel
theorem dX0_removeSomebody_28 : decode cX0_removeSomebody 28 = .ok (.aload_n 0, 1) := by decide +kernel
theorem dX0_removeSomebody_29 : decode cX0_removeSomebody 29 = .ok (.getfield 19, 3) := by decide +kernel
theorem dX0_removeSomebody_32 : decode cX0_removeSomebody 32 = .ok (.iload_n 2, 1) := by decide +kernel
theorem dX0_removeSomebody_33 : decode cX0_removeSomebody 33 = .ok (.iaload, 1) := by decide +kernel
theorem dX0_removeSomebody_34 : decode cX0_removeSomebody 34 = .ok (.iastore, 1) := by decide +kernel
theorem dX0_removeSomebody_35 : decode cX0_removeSomebody 35 = .ok (.aload_n 0, 1) := by decide +kernel
theorem dX0_removeSomebody_36 : decode cX0_removeSomebody 36 = .ok (.getfield 22, 3) := by decide +kernel
theorem dX0_removeSomebody_39 : decode cX0_removeSomebody 39 = .ok (.iload_n 2, 1) := by decide +kernel
theorem dX0_removeSomebody_40 : decode cX0_removeSomebody 40 = .ok (.iconst 1, 1) := by decide +kernel
theorem dX0_removeSomebody_41 : decode cX0_removeSomebody 41 = .ok (.isub, 1) := by decide +kernel
theorem dX0_removeSomebody_42 : decode cX0_removeSomebody 42 = .ok (.aload_n 0, 1) := by decide +kernel
theorem dX0_removeSomebody_43 : decode cX0_removeSomebody 43 = .ok (.getfield 22, 3) := by decide +kernel
theorem dX0_removeSomebody_46 : decode cX0_removeSomebody 46 = .ok (.iload_n 2, 1) := by decide +kernel
theorem dX0_removeSomebody_47 : decode cX0_removeSomebody 47 = .ok (.iaload, 1) := by decide +kernel
theorem dX0_removeSomebody_48 : decode cX0_removeSomebody 48 = .ok (.iastore, 1) := by decide +kernel
theorem dX0_removeSomebody_49 : decode cX0_removeSomebody 49 = .ok (.iinc 2 1, 3) := by decide +kernel
theorem dX0_removeSomebody_52 : decode cX0_removeSomebody 52 = .ok (.goto (-39), 3) := by decide +kernel
theorem dX0_removeSomebody_55 : decode cX0_removeSomebody 55 = .ok (.aload_n 0, 1) := by decide +kernel
theorem dX0_removeSomebody_56 : decode cX0_removeSomebody 56 = .ok (.dup, 1) := by decide +kernel
theorem dX0_removeSomebody_57 : decode cX0_removeSomebody 57 = .ok (.getfield 44, 3) := by decide +kernel
theorem dX0_removeSomebody_60 : decode cX0_removeSomebody 60 = .ok (.iconst 1, 1) := by decide +kernel
theorem dX0_removeSomebody_61 : decode cX0_removeSomebody 61 = .ok (.isub, 1) := by decide +kernel
theorem dX0_removeSomebody_62 : decode cX0_removeSomebody 62 = .ok (.putfield 44, 3) := by decide +kernel
theorem dX0_removeSomebody_65 : decode cX0_removeSomebody 65 = .ok (.return_, 1) := by decide +kernel
theorem dX0_isMorning_0 : decode cX0_isMorning 0 = .ok (.iload_n 1, 1) := by decide +kernel
theorem dX0_isMorning_1 : decode cX0_isMorning 1 = .ok (.iconst 0, 1) := by decide +kernel
theorem dX0_isMorning_2 : decode cX0_isMorning 2 = .ok (.aload_n 0, 1) := by decide +kernel
theorem dX0_isMorning_3 : decode cX0_isMorning 3 = .ok (.getfield 32, 3) := by decide +kernel
theorem dX0_isMorning_6 : decode cX0_isMorning 6 = .ok (.iconst 1, 1) := by decide +kernel
theorem dX0_isMorning_7 : decode cX0_isMorning 7 = .ok (.isub, 1) := by decide +kernel
theorem dX0_isMorning_8 : decode cX0_isMorning 8 = .ok (.invokestatic 64, 3) := by decide +kernel
theorem dX0_isMorning_11 : decode cX0_isMorning 11 = .ok (.ireturn, 1) := by decide +kernel
theorem dX0_isSomebody_0 : decode cX0_isSomebody 0 = .ok (.iload_n 1, 1) := by decide +kernel
theorem dX0_isSomebody_1 : decode cX0_isSomebody 1 = .ok (.iconst 0, 1) := by decide +kernel
theorem dX0_isSomebody_2 : decode cX0_isSomebody 2 = .ok (.aload_n 0, 1) := by decide +kernel
theorem dX0_isSomebody_3 : decode cX0_isSomebody 3 = .ok (.getfield 44, 3) := by decide +kernel
theorem dX0_isSomebody_6 : decode cX0_isSomebody 6 = .ok (.iconst 1, 1) := by decide +kernel
theorem dX0_isSomebody_7 : decode cX0_isSomebody 7 = .ok (.isub, 1) := by decide +kernel
theorem dX0_isSomebody_8 : decode cX0_isSomebody 8 = .ok (.invokestatic 64, 3) := by decide +kernel
theorem dX0_isSomebody_11 : decode cX0_isSomebody 11 = .ok (.ireturn, 1) := by decide +kernel
theorem dX0_isAllowed_0 : decode cX0_isAllowed 0 = .ok (.aload_n 0, 1) := by decide +kernel
theorem dX0_isAllowed_1 : decode cX0_isAllowed 1 = .ok (.getfield 35, 3) := by decide +kernel
theorem dX0_isAllowed_4 : decode cX0_isAllowed 4 = .ok (.iload_n 1, 1) := by decide +kernel
theorem dX0_isAllowed_5 : decode cX0_isAllowed 5 = .ok (.invokestatic 68, 3) := by decide +kernel
theorem dX0_isAllowed_8 : decode cX0_isAllowed 8 = .ok (.ireturn, 1) := by decide +kernel
theorem dX0_allMornings_0 : decode cX0_allMornings 0 = .ok (.iconst 1, 1) := by decide +kernel
theorem dX0_allMornings_1 : decode cX0_allMornings 1 = .ok (.aload_n 0, 1) := by decide +kernel
theorem dX0_allMornings_2 : decode cX0_allMornings 2 = .ok (.getfield 32, 3) := by decide +kernel
theorem dX0_allMornings_5 : decode cX0_allMornings 5 = .ok (.ishl, 1) := by decide +kernel
theorem dX0_allMornings_6 : decode cX0_allMornings 6 = .ok (.iconst 1, 1) := by decide +kernel
theorem dX0_allMornings_7 : decode cX0_allMornings 7 = .ok (.isub, 1) := by decide +kernel
theorem dX0_allMornings_8 : decode cX0_allMornings 8 = .ok (.ireturn, 1) := by decide +kernel
theorem dX0_allPeople_0 : decode cX0_allPeople 0 = .ok (.iconst 1, 1) := by decide +kernel
theorem dX0_allPeople_1 : decode cX0_allPeople 1 = .ok (.aload_n 0, 1) := by decide +kernel
theorem dX0_allPeople_2 : decode cX0_allPeople 2 = .ok (.getfield 44, 3) := by decide +kernel
theorem dX0_allPeople_5 : decode cX0_allPeople 5 = .ok (.ishl, 1) := by decide +kernel
theorem dX0_allPeople_6 : decode cX0_allPeople 6 = .ok (.iconst 1, 1) := by decide +kernel
theorem dX0_allPeople_7 : decode cX0_allPeople 7 = .ok (.isub, 1) := by decide +kernel
theorem dX0_allPeople_8 : decode cX0_allPeople 8 = .ok (.ireturn, 1) := by decide +kernel
theorem dX0_stillOn_0 : decode cX0_stillOn 0 = .ok (.aload_n 0, 1) := by decide +kernel
theorem dX0_stillOn_1 : decode cX0_stillOn 1 = .ok (.getfield 35, 3) := by decide +kernel
theorem dX0_stillOn_4 : decode cX0_stillOn 4 = .ok (.iconst 1, 1) := by decide +kernel
theorem dX0_stillOn_5 : decode cX0_stillOn 5 = .ok (.iload_n 1, 1) := by decide +kernel
theorem dX0_stillOn_6 : decode cX0_stillOn 6 = .ok (.ishl, 1) := by decide +kernel
theorem dX0_stillOn_7 : decode cX0_stillOn 7 = .ok (.iconst 1, 1) := by decide +kernel
theorem dX0_stillOn_8 : decode cX0_stillOn 8 = .ok (.isub, 1) := by decide +kernel
theorem dX0_stillOn_9 : decode cX0_stillOn 9 = .ok (.iconst (-1), 1) := by decide +kernel
theorem dX0_stillOn_10 : decode cX0_stillOn 10 = .ok (.ixor, 1) := by decide +kernel
theorem dX0_stillOn_11 : decode cX0_stillOn 11 = .ok (.iand, 1) := by decide +kernel
theorem dX0_stillOn_12 : decode cX0_stillOn 12 = .ok (.ireturn, 1) := by decide +kernel
theorem dX0_lotsOf_0 : decode cX0_lotsOf 0 = .ok (.aload_n 0, 1) := by decide +kernel
theorem dX0_lotsOf_1 : decode cX0_lotsOf 1 = .ok (.iload_n 1, 1) := by decide +kernel
theorem dX0_lotsOf_2 : decode cX0_lotsOf 2 = .ok (.invokevirtual 72, 3) := by decide +kernel
theorem dX0_lotsOf_5 : decode cX0_lotsOf 5 = .ok (.ifCond .eq 12, 3) := by decide +kernel
theorem dX0_lotsOf_8 : decode cX0_lotsOf 8 = .ok (.aload_n 0, 1) := by decide +kernel
theorem dX0_lotsOf_9 : decode cX0_lotsOf 9 = .ok (.getfield 9, 3) := by decide +kernel
theorem dX0_lotsOf_12 : decode cX0_lotsOf 12 = .ok (.iload_n 1, 1) := by decide +kernel
theorem dX0_lotsOf_13 : decode cX0_lotsOf 13 = .ok (.iaload, 1) := by decide +kernel
theorem dX0_lotsOf_14 : decode cX0_lotsOf 14 = .ok (.goto 4, 3) := by decide +kernel
theorem dX0_lotsOf_17 : decode cX0_lotsOf 17 = .ok (.iconst 0, 1) := by decide +kernel
theorem dX0_lotsOf_18 : decode cX0_lotsOf 18 = .ok (.ireturn, 1) := by decide +kernel
theorem dX0_weightsOf_0 : decode cX0_weightsOf 0 = .ok (.iconst 0, 1) := by decide +kernel
theorem dX0_weightsOf_1 : decode cX0_weightsOf 1 = .ok (.istore_n 2, 1) := by decide +kernel
theorem dX0_weightsOf_2 : decode cX0_weightsOf 2 = .ok (.iconst 0, 1) := by decide +kernel
theorem dX0_weightsOf_3 : decode cX0_weightsOf 3 = .ok (.istore_n 3, 1) := by decide +kernel
theorem dX0_weightsOf_4 : decode cX0_weightsOf 4 = .ok (.iload_n 3, 1) := by decide +kernel
theorem dX0_weightsOf_5 : decode cX0_weightsOf 5 = .ok (.aload_n 0, 1) := by decide +kernel
theorem dX0_weightsOf_6 : decode cX0_weightsOf 6 = .ok (.getfield 32, 3) := by decide +kernel
theorem dX0_weightsOf_9 : decode cX0_weightsOf 9 = .ok (.if_icmp .ge 26, 3) := by decide +kernel
theorem dX0_weightsOf_12 : decode cX0_weightsOf 12 = .ok (.iload_n 1, 1) := by decide +kernel
theorem dX0_weightsOf_13 : decode cX0_weightsOf 13 = .ok (.iload_n 3, 1) := by decide +kernel
theorem dX0_weightsOf_14 : decode cX0_weightsOf 14 = .ok (.invokestatic 68, 3) := by decide +kernel
theorem dX0_weightsOf_17 : decode cX0_weightsOf 17 = .ok (.ifCond .eq 12, 3) := by decide +kernel
theorem dX0_weightsOf_20 : decode cX0_weightsOf 20 = .ok (.iload_n 2, 1) := by decide +kernel
theorem dX0_weightsOf_21 : decode cX0_weightsOf 21 = .ok (.aload_n 0, 1) := by decide +kernel
theorem dX0_weightsOf_22 : decode cX0_weightsOf 22 = .ok (.getfield 9, 3) := by decide +kernel
theorem dX0_weightsOf_25 : decode cX0_weightsOf 25 = .ok (.iload_n 3, 1) := by decide +kernel
theorem dX0_weightsOf_26 : decode cX0_weightsOf 26 = .ok (.iaload, 1) := by decide +kernel
theorem dX0_weightsOf_27 : decode cX0_weightsOf 27 = .ok (.iadd, 1) := by decide +kernel
theorem dX0_weightsOf_28 : decode cX0_weightsOf 28 = .ok (.istore_n 2, 1) := by decide +kernel
theorem dX0_weightsOf_29 : decode cX0_weightsOf 29 = .ok (.iinc 3 1, 3) := by decide +kernel
theorem dX0_weightsOf_32 : decode cX0_weightsOf 32 = .ok (.goto (-28), 3) := by decide +kernel
theorem dX0_weightsOf_35 : decode cX0_weightsOf 35 = .ok (.iload_n 2, 1) := by decide +kernel
theorem dX0_weightsOf_36 : decode cX0_weightsOf 36 = .ok (.ireturn, 1) := by decide +kernel
theorem dX0_oddsOn_0 : decode cX0_oddsOn 0 = .ok (.aload_n 0, 1) := by decide +kernel
theorem dX0_oddsOn_1 : decode cX0_oddsOn 1 = .ok (.iload_n 1, 1) := by decide +kernel
theorem dX0_oddsOn_2 : decode cX0_oddsOn 2 = .ok (.invokevirtual 75, 3) := by decide +kernel
theorem dX0_oddsOn_5 : decode cX0_oddsOn 5 = .ok (.aload_n 0, 1) := by decide +kernel
theorem dX0_oddsOn_6 : decode cX0_oddsOn 6 = .ok (.aload_n 0, 1) := by decide +kernel
theorem dX0_oddsOn_7 : decode cX0_oddsOn 7 = .ok (.iload_n 1, 1) := by decide +kernel
theorem dX0_oddsOn_8 : decode cX0_oddsOn 8 = .ok (.invokevirtual 79, 3) := by decide +kernel
theorem dX0_oddsOn_11 : decode cX0_oddsOn 11 = .ok (.invokevirtual 82, 3) := by decide +kernel
theorem dX0_oddsOn_14 : decode cX0_oddsOn 14 = .ok (.invokestatic 85, 3) := by decide +kernel
theorem dX0_oddsOn_17 : decode cX0_oddsOn 17 = .ok (.ireturn, 1) := by decide +kernel
theorem dX0_depthOf_0 : decode cX0_depthOf 0 = .ok (.aload_n 0, 1) := by decide +kernel
theorem dX0_depthOf_1 : decode cX0_depthOf 1 = .ok (.getfield 19, 3) := by decide +kernel
theorem dX0_depthOf_4 : decode cX0_depthOf 4 = .ok (.iload_n 1, 1) := by decide +kernel
theorem dX0_depthOf_5 : decode cX0_depthOf 5 = .ok (.iaload, 1) := by decide +kernel
theorem dX0_depthOf_6 : decode cX0_depthOf 6 = .ok (.iconst 4, 1) := by decide +kernel
theorem dX0_depthOf_7 : decode cX0_depthOf 7 = .ok (.if_icmp .eq 9, 3) := by decide +kernel
theorem dX0_depthOf_10 : decode cX0_depthOf 10 = .ok (.aload_n 0, 1) := by decide +kernel
theorem dX0_depthOf_11 : decode cX0_depthOf 11 = .ok (.iload_n 1, 1) := by decide +kernel
theorem dX0_depthOf_12 : decode cX0_depthOf 12 = .ok (.invokevirtual 89, 3) := by decide +kernel
theorem dX0_depthOf_15 : decode cX0_depthOf 15 = .ok (.ireturn, 1) := by decide +kernel
theorem dX0_depthOf_16 : decode cX0_depthOf 16 = .ok (.iconst (-1), 1) := by decide +kernel
theorem dX0_depthOf_17 : decode cX0_depthOf 17 = .ok (.istore_n 2, 1) := by decide +kernel
theorem dX0_depthOf_18 : decode cX0_depthOf 18 = .ok (.iconst 0, 1) := by decide +kernel
theorem dX0_depthOf_19 : decode cX0_depthOf 19 = .ok (.istore_n 3, 1) := by decide +kernel
theorem dX0_depthOf_20 : decode cX0_depthOf 20 = .ok (.iload_n 3, 1) := by decide +kernel
theorem dX0_depthOf_21 : decode cX0_depthOf 21 = .ok (.aload_n 0, 1) := by decide +kernel
theorem dX0_depthOf_22 : decode cX0_depthOf 22 = .ok (.getfield 44, 3) := by decide +kernel
theorem dX0_depthOf_25 : decode cX0_depthOf 25 = .ok (.if_icmp .ge 29, 3) := by decide +kernel
theorem dX0_depthOf_28 : decode cX0_depthOf 28 = .ok (.aload_n 0, 1) := by decide +kernel
theorem dX0_depthOf_29 : decode cX0_depthOf 29 = .ok (.getfield 19, 3) := by decide +kernel
theorem dX0_depthOf_32 : decode cX0_depthOf 32 = .ok (.iload_n 3, 1) := by decide +kernel
theorem dX0_depthOf_33 : decode cX0_depthOf 33 = .ok (.iaload, 1) := by decide +kernel
theorem dX0_depthOf_34 : decode cX0_depthOf 34 = .ok (.iconst 4, 1) := by decide +kernel
theorem dX0_depthOf_35 : decode cX0_depthOf 35 = .ok (.if_icmp .eq 13, 3) := by decide +kernel
theorem dX0_depthOf_38 : decode cX0_depthOf 38 = .ok (.iload_n 2, 1) := by decide +kernel
theorem dX0_depthOf_39 : decode cX0_depthOf 39 = .ok (.aload_n 0, 1) := by decide +kernel
theorem dX0_depthOf_40 : decode cX0_depthOf 40 = .ok (.iload_n 3, 1) := by decide +kernel
theorem dX0_depthOf_41 : decode cX0_depthOf 41 = .ok (.invokevirtual 89, 3) := by decide +kernel
theorem dX0_depthOf_44 : decode cX0_depthOf 44 = .ok (.invokestatic 92, 3) := by decide +kernel
theorem dX0_depthOf_47 : decode cX0_depthOf 47 = .ok (.istore_n 2, 1) := by decide +kernel
theorem dX0_depthOf_48 : decode cX0_depthOf 48 = .ok (.iinc 3 1, 3) := by decide +kernel
theorem dX0_depthOf_51 : decode cX0_depthOf 51 = .ok (.goto (-31), 3) := by decide +kernel
theorem dX0_depthOf_54 : decode cX0_depthOf 54 = .ok (.iload_n 2, 1) := by decide +kernel
theorem dX0_depthOf_55 : decode cX0_depthOf 55 = .ok (.iconst 1, 1) := by decide +kernel
theorem dX0_depthOf_56 : decode cX0_depthOf 56 = .ok (.iadd, 1) := by decide +kernel
theorem dX0_depthOf_57 : decode cX0_depthOf 57 = .ok (.aload_n 0, 1) := by decide +kernel
theorem dX0_depthOf_58 : decode cX0_depthOf 58 = .ok (.getfield 15, 3) := by decide +kernel
theorem dX0_depthOf_61 : decode cX0_depthOf 61 = .ok (.invokestatic 97, 3) := by decide +kernel
theorem dX0_depthOf_64 : decode cX0_depthOf 64 = .ok (.ireturn, 1) := by decide +kernel
theorem dX0_ownDepthOf_0 : decode cX0_ownDepthOf 0 = .ok (.aload_n 0, 1) := by decide +kernel
theorem dX0_ownDepthOf_1 : decode cX0_ownDepthOf 1 = .ok (.getfield 22, 3) := by decide +kernel
theorem dX0_ownDepthOf_4 : decode cX0_ownDepthOf 4 = .ok (.iload_n 1, 1) := by decide +kernel
theorem dX0_ownDepthOf_5 : decode cX0_ownDepthOf 5 = .ok (.iaload, 1) := by decide +kernel
theorem dX0_ownDepthOf_6 : decode cX0_ownDepthOf 6 = .ok (.aload_n 0, 1) := by decide +kernel
theorem dX0_ownDepthOf_7 : decode cX0_ownDepthOf 7 = .ok (.getfield 15, 3) := by decide +kernel
theorem dX0_ownDepthOf_10 : decode cX0_ownDepthOf 10 = .ok (.invokestatic 97, 3) := by decide +kernel
theorem dX0_ownDepthOf_13 : decode cX0_ownDepthOf 13 = .ok (.istore_n 2, 1) := by decide +kernel
theorem dX0_ownDepthOf_14 : decode cX0_ownDepthOf 14 = .ok (.aload_n 0, 1) := by decide +kernel
theorem dX0_ownDepthOf_15 : decode cX0_ownDepthOf 15 = .ok (.getfield 19, 3) := by decide +kernel
theorem dX0_ownDepthOf_18 : decode cX0_ownDepthOf 18 = .ok (.iload_n 1, 1) := by decide +kernel
theorem dX0_ownDepthOf_19 : decode cX0_ownDepthOf 19 = .ok (.iaload, 1) := by decide +kernel
theorem dX0_ownDepthOf_20 : decode cX0_ownDepthOf 20 = .ok (.iconst 3, 1) := by decide +kernel
theorem dX0_ownDepthOf_21 : decode cX0_ownDepthOf 21 = .ok (.if_icmp .ne 9, 3) := by decide +kernel
theorem dX0_ownDepthOf_24 : decode cX0_ownDepthOf 24 = .ok (.iload_n 2, 1) := by decide +kernel
theorem dX0_ownDepthOf_25 : decode cX0_ownDepthOf 25 = .ok (.iconst 1, 1) := by decide +kernel
theorem dX0_ownDepthOf_26 : decode cX0_ownDepthOf 26 = .ok (.iadd, 1) := by decide +kernel
theorem dX0_ownDepthOf_27 : decode cX0_ownDepthOf 27 = .ok (.goto 4, 3) := by decide +kernel
theorem dX0_ownDepthOf_30 : decode cX0_ownDepthOf 30 = .ok (.iload_n 2, 1) := by decide +kernel
theorem dX0_ownDepthOf_31 : decode cX0_ownDepthOf 31 = .ok (.ireturn, 1) := by decide +kernel
theorem dX0_canThink_0 : decode cX0_canThink 0 = .ok (.aload_n 0, 1) := by decide +kernel
theorem dX0_canThink_1 : decode cX0_canThink 1 = .ok (.aload_n 0, 1) := by decide +kernel
theorem dX0_canThink_2 : decode cX0_canThink 2 = .ok (.iload_n 1, 1) := by decide +kernel
theorem dX0_canThink_3 : decode cX0_canThink 3 = .ok (.invokevirtual 100, 3) := by decide +kernel
theorem dX0_canThink_6 : decode cX0_canThink 6 = .ok (.invokevirtual 103, 3) := by decide +kernel
theorem dX0_canThink_9 : decode cX0_canThink 9 = .ok (.iconst 1, 1) := by decide +kernel
theorem dX0_canThink_10 : decode cX0_canThink 10 = .ok (.iload_n 2, 1) := by decide +kernel
theorem dX0_canThink_11 : decode cX0_canThink 11 = .ok (.ishl, 1) := by decide +kernel
theorem dX0_canThink_12 : decode cX0_canThink 12 = .ok (.iconst 1, 1) := by decide +kernel
theorem dX0_canThink_13 : decode cX0_canThink 13 = .ok (.isub, 1) := by decide +kernel
theorem dX0_canThink_14 : decode cX0_canThink 14 = .ok (.iconst (-1), 1) := by decide +kernel
theorem dX0_canThink_15 : decode cX0_canThink 15 = .ok (.ixor, 1) := by decide +kernel
theorem dX0_canThink_16 : decode cX0_canThink 16 = .ok (.iand, 1) := by decide +kernel
theorem dX0_canThink_17 : decode cX0_canThink 17 = .ok (.ireturn, 1) := by decide +kernel
theorem dX0_allowedWithoutLast_0 : decode cX0_allowedWithoutLast 0 = .ok (.aload_n 0, 1) := by decide +kernel
theorem dX0_allowedWithoutLast_1 : decode cX0_allowedWithoutLast 1 = .ok (.getfield 35, 3) := by decide +kernel
theorem dX0_allowedWithoutLast_4 : decode cX0_allowedWithoutLast 4 = .ok (.istore_n 2, 1) := by decide +kernel
theorem dX0_allowedWithoutLast_5 : decode cX0_allowedWithoutLast 5 = .ok (.iconst 0, 1) := by decide +kernel
theorem dX0_allowedWithoutLast_6 : decode cX0_allowedWithoutLast 6 = .ok (.istore_n 3, 1) := by decide +kernel
theorem dX0_allowedWithoutLast_7 : decode cX0_allowedWithoutLast 7 = .ok (.iload_n 3, 1) := by decide +kernel
theorem dX0_allowedWithoutLast_8 : decode cX0_allowedWithoutLast 8 = .ok (.iload_n 1, 1) := by decide +kernel
theorem dX0_allowedWithoutLast_9 : decode cX0_allowedWithoutLast 9 = .ok (.if_icmp .ge 24, 3) := by decide +kernel
theorem dX0_allowedWithoutLast_12 : decode cX0_allowedWithoutLast 12 = .ok (.iload_n 2, 1) := by decide +kernel
theorem dX0_allowedWithoutLast_13 : decode cX0_allowedWithoutLast 13 = .ok (.ifCond .eq 20, 3) := by decide +kernel
theorem dX0_allowedWithoutLast_16 : decode cX0_allowedWithoutLast 16 = .ok (.iload_n 2, 1) := by decide +kernel
theorem dX0_allowedWithoutLast_17 : decode cX0_allowedWithoutLast 17 = .ok (.iconst 1, 1) := by decide +kernel
theorem dX0_allowedWithoutLast_18 : decode cX0_allowedWithoutLast 18 = .ok (.iload_n 2, 1) := by decide +kernel
theorem dX0_allowedWithoutLast_19 : decode cX0_allowedWithoutLast 19 = .ok (.invokestatic 106, 3) := by decide +kernel
theorem dX0_allowedWithoutLast_22 : decode cX0_allowedWithoutLast 22 = .ok (.ishl, 1) := by decide +kernel
theorem dX0_allowedWithoutLast_23 : decode cX0_allowedWithoutLast 23 = .ok (.iconst (-1), 1) := by decide +kernel
theorem dX0_allowedWithoutLast_24 : decode cX0_allowedWithoutLast 24 = .ok (.ixor, 1) := by decide +kernel
theorem dX0_allowedWithoutLast_25 : decode cX0_allowedWithoutLast 25 = .ok (.iand, 1) := by decide +kernel
theorem dX0_allowedWithoutLast_26 : decode cX0_allowedWithoutLast 26 = .ok (.istore_n 2, 1) := by decide +kernel
theorem dX0_allowedWithoutLast_27 : decode cX0_allowedWithoutLast 27 = .ok (.iinc 3 1, 3) := by decide +kernel
theorem dX0_allowedWithoutLast_30 : decode cX0_allowedWithoutLast 30 = .ok (.goto (-23), 3) := by decide +kernel
theorem dX0_allowedWithoutLast_33 : decode cX0_allowedWithoutLast 33 = .ok (.iload_n 2, 1) := by decide +kernel
theorem dX0_allowedWithoutLast_34 : decode cX0_allowedWithoutLast 34 = .ok (.ireturn, 1) := by decide +kernel
theorem dX0_sleepsOn_0 : decode cX0_sleepsOn 0 = .ok (.aload_n 0, 1) := by decide +kernel
theorem dX0_sleepsOn_1 : decode cX0_sleepsOn 1 = .ok (.getfield 19, 3) := by decide +kernel
theorem dX0_sleepsOn_4 : decode cX0_sleepsOn 4 = .ok (.iload_n 1, 1) := by decide +kernel
theorem dX0_sleepsOn_5 : decode cX0_sleepsOn 5 = .ok (.iaload, 1) := by decide +kernel
theorem dX0_sleepsOn_6 : decode cX0_sleepsOn 6 = .ok (.iconst 1, 1) := by decide +kernel
theorem dX0_sleepsOn_7 : decode cX0_sleepsOn 7 = .ok (.invokestatic 109, 3) := by decide +kernel
theorem dX0_sleepsOn_10 : decode cX0_sleepsOn 10 = .ok (.ifCond .eq 22, 3) := by decide +kernel
theorem dX0_sleepsOn_13 : decode cX0_sleepsOn 13 = .ok (.iload_n 2, 1) := by decide +kernel
theorem dX0_sleepsOn_14 : decode cX0_sleepsOn 14 = .ok (.iconst 2, 1) := by decide +kernel
theorem dX0_sleepsOn_15 : decode cX0_sleepsOn 15 = .ok (.aload_n 0, 1) := by decide +kernel
theorem dX0_sleepsOn_16 : decode cX0_sleepsOn 16 = .ok (.getfield 22, 3) := by decide +kernel
theorem dX0_sleepsOn_19 : decode cX0_sleepsOn 19 = .ok (.iload_n 1, 1) := by decide +kernel
theorem dX0_sleepsOn_20 : decode cX0_sleepsOn 20 = .ok (.iaload, 1) := by decide +kernel
theorem dX0_sleepsOn_21 : decode cX0_sleepsOn 21 = .ok (.iconst 3, 1) := by decide +kernel
theorem dX0_sleepsOn_22 : decode cX0_sleepsOn 22 = .ok (.irem, 1) := by decide +kernel
theorem dX0_sleepsOn_23 : decode cX0_sleepsOn 23 = .ok (.iadd, 1) := by decide +kernel
theorem dX0_sleepsOn_24 : decode cX0_sleepsOn 24 = .ok (.irem, 1) := by decide +kernel
theorem dX0_sleepsOn_25 : decode cX0_sleepsOn 25 = .ok (.ifCond .ne 7, 3) := by decide +kernel
theorem dX0_sleepsOn_28 : decode cX0_sleepsOn 28 = .ok (.iconst 1, 1) := by decide +kernel
theorem dX0_sleepsOn_29 : decode cX0_sleepsOn 29 = .ok (.goto 4, 3) := by decide +kernel
theorem dX0_sleepsOn_32 : decode cX0_sleepsOn 32 = .ok (.iconst 0, 1) := by decide +kernel
theorem dX0_sleepsOn_33 : decode cX0_sleepsOn 33 = .ok (.ireturn, 1) := by decide +kernel
theorem dX0_morningsAsleep_0 : decode cX0_morningsAsleep 0 = .ok (.iconst 0, 1) := by decide +kernel
theorem dX0_morningsAsleep_1 : decode cX0_morningsAsleep 1 = .ok (.istore_n 2, 1) := by decide +kernel
theorem dX0_morningsAsleep_2 : decode cX0_morningsAsleep 2 = .ok (.iconst 0, 1) := by decide +kernel
theorem dX0_morningsAsleep_3 : decode cX0_morningsAsleep 3 = .ok (.istore_n 3, 1) := by decide +kernel
theorem dX0_morningsAsleep_4 : decode cX0_morningsAsleep 4 = .ok (.iload_n 3, 1) := by decide +kernel
theorem dX0_morningsAsleep_5 : decode cX0_morningsAsleep 5 = .ok (.aload_n 0, 1) := by decide +kernel
theorem dX0_morningsAsleep_6 : decode cX0_morningsAsleep 6 = .ok (.getfield 32, 3) := by decide +kernel
theorem dX0_morningsAsleep_9 : decode cX0_morningsAsleep 9 = .ok (.if_icmp .ge 21, 3) := by decide +kernel
theorem dX0_morningsAsleep_12 : decode cX0_morningsAsleep 12 = .ok (.aload_n 0, 1) := by decide +kernel
theorem dX0_morningsAsleep_13 : decode cX0_morningsAsleep 13 = .ok (.iload_n 1, 1) := by decide +kernel
theorem dX0_morningsAsleep_14 : decode cX0_morningsAsleep 14 = .ok (.iload_n 3, 1) := by decide +kernel
theorem dX0_morningsAsleep_15 : decode cX0_morningsAsleep 15 = .ok (.invokevirtual 112, 3) := by decide +kernel
theorem dX0_morningsAsleep_18 : decode cX0_morningsAsleep 18 = .ok (.ifCond .eq 6, 3) := by decide +kernel
theorem dX0_morningsAsleep_21 : decode cX0_morningsAsleep 21 = .ok (.iinc 2 1, 3) := by decide +kernel
theorem dX0_morningsAsleep_24 : decode cX0_morningsAsleep 24 = .ok (.iinc 3 1, 3) := by decide +kernel
theorem dX0_morningsAsleep_27 : decode cX0_morningsAsleep 27 = .ok (.goto (-23), 3) := by decide +kernel
theorem dX0_morningsAsleep_30 : decode cX0_morningsAsleep 30 = .ok (.iload_n 2, 1) := by decide +kernel
theorem dX0_morningsAsleep_31 : decode cX0_morningsAsleep 31 = .ok (.ireturn, 1) := by decide +kernel
theorem dX0_expectedBy_0 : decode cX0_expectedBy 0 = .ok (.aload_n 0, 1) := by decide +kernel
theorem dX0_expectedBy_1 : decode cX0_expectedBy 1 = .ok (.iload_n 1, 1) := by decide +kernel
theorem dX0_expectedBy_2 : decode cX0_expectedBy 2 = .ok (.invokevirtual 115, 3) := by decide +kernel
theorem dX0_expectedBy_5 : decode cX0_expectedBy 5 = .ok (.aload_n 0, 1) := by decide +kernel
theorem dX0_expectedBy_6 : decode cX0_expectedBy 6 = .ok (.iload_n 1, 1) := by decide +kernel
theorem dX0_expectedBy_7 : decode cX0_expectedBy 7 = .ok (.invokevirtual 118, 3) := by decide +kernel
theorem dX0_expectedBy_10 : decode cX0_expectedBy 10 = .ok (.ior, 1) := by decide +kernel
theorem dX0_expectedBy_11 : decode cX0_expectedBy 11 = .ok (.ireturn, 1) := by decide +kernel
theorem dX0_reasonedBy_0 : decode cX0_reasonedBy 0 = .ok (.aload_n 0, 1) := by decide +kernel
theorem dX0_reasonedBy_1 : decode cX0_reasonedBy 1 = .ok (.getfield 19, 3) := by decide +kernel
theorem dX0_reasonedBy_4 : decode cX0_reasonedBy 4 = .ok (.iload_n 1, 1) := by decide +kernel
theorem dX0_reasonedBy_5 : decode cX0_reasonedBy 5 = .ok (.iaload, 1) := by decide +kernel
theorem dX0_reasonedBy_6 : decode cX0_reasonedBy 6 = .ok (.iconst 2, 1) := by decide +kernel
theorem dX0_reasonedBy_7 : decode cX0_reasonedBy 7 = .ok (.if_icmp .ne 5, 3) := by decide +kernel
theorem dX0_reasonedBy_10 : decode cX0_reasonedBy 10 = .ok (.iconst 0, 1) := by decide +kernel
theorem dX0_reasonedBy_11 : decode cX0_reasonedBy 11 = .ok (.ireturn, 1) := by decide +kernel
theorem dX0_reasonedBy_12 : decode cX0_reasonedBy 12 = .ok (.aload_n 0, 1) := by decide +kernel
theorem dX0_reasonedBy_13 : decode cX0_reasonedBy 13 = .ok (.aload_n 0, 1) := by decide +kernel
theorem dX0_reasonedBy_14 : decode cX0_reasonedBy 14 = .ok (.iload_n 1, 1) := by decide +kernel
theorem dX0_reasonedBy_15 : decode cX0_reasonedBy 15 = .ok (.invokevirtual 100, 3) := by decide +kernel
theorem dX0_reasonedBy_18 : decode cX0_reasonedBy 18 = .ok (.invokevirtual 103, 3) := by decide +kernel
theorem dX0_reasonedBy_21 : decode cX0_reasonedBy 21 = .ok (.invokestatic 106, 3) := by decide +kernel
theorem dX0_reasonedBy_24 : decode cX0_reasonedBy 24 = .ok (.istore_n 2, 1) := by decide +kernel
theorem dX0_reasonedBy_25 : decode cX0_reasonedBy 25 = .ok (.iload_n 2, 1) := by decide +kernel
theorem dX0_reasonedBy_26 : decode cX0_reasonedBy 26 = .ok (.iconst (-1), 1) := by decide +kernel
theorem dX0_reasonedBy_27 : decode cX0_reasonedBy 27 = .ok (.if_icmp .eq 12, 3) := by decide +kernel
theorem dX0_reasonedBy_30 : decode cX0_reasonedBy 30 = .ok (.aload_n 0, 1) := by decide +kernel
theorem dX0_reasonedBy_31 : decode cX0_reasonedBy 31 = .ok (.iload_n 1, 1) := by decide +kernel
theorem dX0_reasonedBy_32 : decode cX0_reasonedBy 32 = .ok (.iload_n 2, 1) := by decide +kernel
theorem dX0_reasonedBy_33 : decode cX0_reasonedBy 33 = .ok (.invokevirtual 112, 3) := by decide +kernel
theorem dX0_reasonedBy_36 : decode cX0_reasonedBy 36 = .ok (.ifCond .eq 7, 3) := by decide +kernel
theorem dX0_reasonedBy_39 : decode cX0_reasonedBy 39 = .ok (.iconst 0, 1) := by decide +kernel
theorem dX0_reasonedBy_40 : decode cX0_reasonedBy 40 = .ok (.goto 6, 3) := by decide +kernel
theorem dX0_reasonedBy_43 : decode cX0_reasonedBy 43 = .ok (.iconst 1, 1) := by decide +kernel
theorem dX0_reasonedBy_44 : decode cX0_reasonedBy 44 = .ok (.iload_n 2, 1) := by decide +kernel
theorem dX0_reasonedBy_45 : decode cX0_reasonedBy 45 = .ok (.ishl, 1) := by decide +kernel
theorem dX0_reasonedBy_46 : decode cX0_reasonedBy 46 = .ok (.ireturn, 1) := by decide +kernel
theorem dX0_betBy_0 : decode cX0_betBy 0 = .ok (.aload_n 0, 1) := by decide +kernel
theorem dX0_betBy_1 : decode cX0_betBy 1 = .ok (.getfield 19, 3) := by decide +kernel
theorem dX0_betBy_4 : decode cX0_betBy 4 = .ok (.iload_n 1, 1) := by decide +kernel
theorem dX0_betBy_5 : decode cX0_betBy 5 = .ok (.iaload, 1) := by decide +kernel
theorem dX0_betBy_6 : decode cX0_betBy 6 = .ok (.iconst 2, 1) := by decide +kernel
theorem dX0_betBy_7 : decode cX0_betBy 7 = .ok (.invokestatic 109, 3) := by decide +kernel
theorem dX0_betBy_10 : decode cX0_betBy 10 = .ok (.ifCond .ne 5, 3) := by decide +kernel
theorem dX0_betBy_13 : decode cX0_betBy 13 = .ok (.iconst 0, 1) := by decide +kernel
theorem dX0_betBy_14 : decode cX0_betBy 14 = .ok (.ireturn, 1) := by decide +kernel
theorem dX0_betBy_15 : decode cX0_betBy 15 = .ok (.iconst 0, 1) := by decide +kernel
theorem dX0_betBy_16 : decode cX0_betBy 16 = .ok (.istore_n 2, 1) := by decide +kernel
theorem dX0_betBy_17 : decode cX0_betBy 17 = .ok (.iconst 0, 1) := by decide +kernel
theorem dX0_betBy_18 : decode cX0_betBy 18 = .ok (.istore_n 3, 1) := by decide +kernel
theorem dX0_betBy_19 : decode cX0_betBy 19 = .ok (.aload_n 0, 1) := by decide +kernel
theorem dX0_betBy_20 : decode cX0_betBy 20 = .ok (.getfield 32, 3) := by decide +kernel
theorem dX0_betBy_23 : decode cX0_betBy 23 = .ok (.iconst 1, 1) := by decide +kernel
theorem dX0_betBy_24 : decode cX0_betBy 24 = .ok (.isub, 1) := by decide +kernel
theorem dX0_betBy_25 : decode cX0_betBy 25 = .ok (.istore 4, 2) := by decide +kernel
theorem dX0_betBy_27 : decode cX0_betBy 27 = .ok (.iload 4, 2) := by decide +kernel
theorem dX0_betBy_29 : decode cX0_betBy 29 = .ok (.ifCond .lt 50, 3) := by decide +kernel
theorem dX0_betBy_32 : decode cX0_betBy 32 = .ok (.aload_n 0, 1) := by decide +kernel
theorem dX0_betBy_33 : decode cX0_betBy 33 = .ok (.iload 4, 2) := by decide +kernel
theorem dX0_betBy_35 : decode cX0_betBy 35 = .ok (.invokevirtual 75, 3) := by decide +kernel
theorem dX0_betBy_38 : decode cX0_betBy 38 = .ok (.istore 5, 2) := by decide +kernel
theorem dX0_betBy_40 : decode cX0_betBy 40 = .ok (.iload_n 3, 1) := by decide +kernel
theorem dX0_betBy_41 : decode cX0_betBy 41 = .ok (.iload 5, 2) := by decide +kernel
theorem dX0_betBy_43 : decode cX0_betBy 43 = .ok (.iadd, 1) := by decide +kernel
theorem dX0_betBy_44 : decode cX0_betBy 44 = .ok (.istore_n 3, 1) := by decide +kernel
theorem dX0_betBy_45 : decode cX0_betBy 45 = .ok (.iload 5, 2) := by decide +kernel
theorem dX0_betBy_47 : decode cX0_betBy 47 = .ok (.ifCond .eq 26, 3) := by decide +kernel
theorem dX0_betBy_50 : decode cX0_betBy 50 = .ok (.bipush 10, 2) := by decide +kernel
theorem dX0_betBy_52 : decode cX0_betBy 52 = .ok (.iload 5, 2) := by decide +kernel
theorem dX0_betBy_54 : decode cX0_betBy 54 = .ok (.imul, 1) := by decide +kernel
theorem dX0_betBy_55 : decode cX0_betBy 55 = .ok (.aload_n 0, 1) := by decide +kernel
theorem dX0_betBy_56 : decode cX0_betBy 56 = .ok (.getfield 22, 3) := by decide +kernel
theorem dX0_betBy_59 : decode cX0_betBy 59 = .ok (.iload_n 1, 1) := by decide +kernel
theorem dX0_betBy_60 : decode cX0_betBy 60 = .ok (.iaload, 1) := by decide +kernel
theorem dX0_betBy_61 : decode cX0_betBy 61 = .ok (.iload_n 3, 1) := by decide +kernel
theorem dX0_betBy_62 : decode cX0_betBy 62 = .ok (.imul, 1) := by decide +kernel
theorem dX0_betBy_63 : decode cX0_betBy 63 = .ok (.if_icmp .lt 10, 3) := by decide +kernel
theorem dX0_betBy_66 : decode cX0_betBy 66 = .ok (.iload_n 2, 1) := by decide +kernel
theorem dX0_betBy_67 : decode cX0_betBy 67 = .ok (.iconst 1, 1) := by decide +kernel
theorem dX0_betBy_68 : decode cX0_betBy 68 = .ok (.iload 4, 2) := by decide +kernel
theorem dX0_betBy_70 : decode cX0_betBy 70 = .ok (.ishl, 1) := by decide +kernel
theorem dX0_betBy_71 : decode cX0_betBy 71 = .ok (.ior, 1) := by decide +kernel
theorem dX0_betBy_72 : decode cX0_betBy 72 = .ok (.istore_n 2, 1) := by decide +kernel
theorem dX0_betBy_73 : decode cX0_betBy 73 = .ok (.iinc 4 (-1), 3) := by decide +kernel
theorem dX0_betBy_76 : decode cX0_betBy 76 = .ok (.goto (-49), 3) := by decide +kernel
theorem dX0_betBy_79 : decode cX0_betBy 79 = .ok (.iload_n 2, 1) := by decide +kernel
theorem dX0_betBy_80 : decode cX0_betBy 80 = .ok (.ireturn, 1) := by decide +kernel
theorem dX0_reasonedByAll_0 : decode cX0_reasonedByAll 0 = .ok (.iconst 0, 1) := by decide +kernel
theorem dX0_reasonedByAll_1 : decode cX0_reasonedByAll 1 = .ok (.istore_n 1, 1) := by decide +kernel
theorem dX0_reasonedByAll_2 : decode cX0_reasonedByAll 2 = .ok (.iconst 0, 1) := by decide +kernel
theorem dX0_reasonedByAll_3 : decode cX0_reasonedByAll 3 = .ok (.istore_n 2, 1) := by decide +kernel
theorem dX0_reasonedByAll_4 : decode cX0_reasonedByAll 4 = .ok (.iload_n 2, 1) := by decide +kernel
theorem dX0_reasonedByAll_5 : decode cX0_reasonedByAll 5 = .ok (.aload_n 0, 1) := by decide +kernel
theorem dX0_reasonedByAll_6 : decode cX0_reasonedByAll 6 = .ok (.getfield 44, 3) := by decide +kernel
theorem dX0_reasonedByAll_9 : decode cX0_reasonedByAll 9 = .ok (.if_icmp .ge 17, 3) := by decide +kernel
theorem dX0_reasonedByAll_12 : decode cX0_reasonedByAll 12 = .ok (.iload_n 1, 1) := by decide +kernel
theorem dX0_reasonedByAll_13 : decode cX0_reasonedByAll 13 = .ok (.aload_n 0, 1) := by decide +kernel
theorem dX0_reasonedByAll_14 : decode cX0_reasonedByAll 14 = .ok (.iload_n 2, 1) := by decide +kernel
theorem dX0_reasonedByAll_15 : decode cX0_reasonedByAll 15 = .ok (.invokevirtual 115, 3) := by decide +kernel
theorem dX0_reasonedByAll_18 : decode cX0_reasonedByAll 18 = .ok (.ior, 1) := by decide +kernel
theorem dX0_reasonedByAll_19 : decode cX0_reasonedByAll 19 = .ok (.istore_n 1, 1) := by decide +kernel
theorem dX0_reasonedByAll_20 : decode cX0_reasonedByAll 20 = .ok (.iinc 2 1, 3) := by decide +kernel
theorem dX0_reasonedByAll_23 : decode cX0_reasonedByAll 23 = .ok (.goto (-19), 3) := by decide +kernel
theorem dX0_reasonedByAll_26 : decode cX0_reasonedByAll 26 = .ok (.iload_n 1, 1) := by decide +kernel
theorem dX0_reasonedByAll_27 : decode cX0_reasonedByAll 27 = .ok (.ireturn, 1) := by decide +kernel
theorem dX0_betByAll_0 : decode cX0_betByAll 0 = .ok (.iconst 0, 1) := by decide +kernel
theorem dX0_betByAll_1 : decode cX0_betByAll 1 = .ok (.istore_n 1, 1) := by decide +kernel
theorem dX0_betByAll_2 : decode cX0_betByAll 2 = .ok (.iconst 0, 1) := by decide +kernel
theorem dX0_betByAll_3 : decode cX0_betByAll 3 = .ok (.istore_n 2, 1) := by decide +kernel
theorem dX0_betByAll_4 : decode cX0_betByAll 4 = .ok (.iload_n 2, 1) := by decide +kernel
theorem dX0_betByAll_5 : decode cX0_betByAll 5 = .ok (.aload_n 0, 1) := by decide +kernel
theorem dX0_betByAll_6 : decode cX0_betByAll 6 = .ok (.getfield 44, 3) := by decide +kernel
theorem dX0_betByAll_9 : decode cX0_betByAll 9 = .ok (.if_icmp .ge 17, 3) := by decide +kernel
theorem dX0_betByAll_12 : decode cX0_betByAll 12 = .ok (.iload_n 1, 1) := by decide +kernel
theorem dX0_betByAll_13 : decode cX0_betByAll 13 = .ok (.aload_n 0, 1) := by decide +kernel
theorem dX0_betByAll_14 : decode cX0_betByAll 14 = .ok (.iload_n 2, 1) := by decide +kernel
theorem dX0_betByAll_15 : decode cX0_betByAll 15 = .ok (.invokevirtual 118, 3) := by decide +kernel
theorem dX0_betByAll_18 : decode cX0_betByAll 18 = .ok (.ior, 1) := by decide +kernel
theorem dX0_betByAll_19 : decode cX0_betByAll 19 = .ok (.istore_n 1, 1) := by decide +kernel
theorem dX0_betByAll_20 : decode cX0_betByAll 20 = .ok (.iinc 2 1, 3) := by decide +kernel
theorem dX0_betByAll_23 : decode cX0_betByAll 23 = .ok (.goto (-19), 3) := by decide +kernel
theorem dX0_betByAll_26 : decode cX0_betByAll 26 = .ok (.iload_n 1, 1) := by decide +kernel
theorem dX0_betByAll_27 : decode cX0_betByAll 27 = .ok (.ireturn, 1) := by decide +kernel
theorem dX0_bySurprise_0 : decode cX0_bySurprise 0 = .ok (.aload_n 0, 1) := by decide +kernel
theorem dX0_bySurprise_1 : decode cX0_bySurprise 1 = .ok (.getfield 35, 3) := by decide +kernel
theorem dX0_bySurprise_4 : decode cX0_bySurprise 4 = .ok (.aload_n 0, 1) := by decide +kernel
theorem dX0_bySurprise_5 : decode cX0_bySurprise 5 = .ok (.invokevirtual 121, 3) := by decide +kernel
theorem dX0_bySurprise_8 : decode cX0_bySurprise 8 = .ok (.aload_n 0, 1) := by decide +kernel
theorem dX0_bySurprise_9 : decode cX0_bySurprise 9 = .ok (.invokevirtual 124, 3) := by decide +kernel
theorem dX0_bySurprise_12 : decode cX0_bySurprise 12 = .ok (.ior, 1) := by decide +kernel
theorem dX0_bySurprise_13 : decode cX0_bySurprise 13 = .ok (.iconst (-1), 1) := by decide +kernel
theorem dX0_bySurprise_14 : decode cX0_bySurprise 14 = .ok (.ixor, 1) := by decide +kernel
theorem dX0_bySurprise_15 : decode cX0_bySurprise 15 = .ok (.iand, 1) := by decide +kernel
theorem dX0_bySurprise_16 : decode cX0_bySurprise 16 = .ok (.ireturn, 1) := by decide +kernel
theorem dX0_expectingOn_0 : decode cX0_expectingOn 0 = .ok (.iconst 0, 1) := by decide +kernel
theorem dX0_expectingOn_1 : decode cX0_expectingOn 1 = .ok (.istore_n 2, 1) := by decide +kernel
theorem dX0_expectingOn_2 : decode cX0_expectingOn 2 = .ok (.iconst 0, 1) := by decide +kernel
theorem dX0_expectingOn_3 : decode cX0_expectingOn 3 = .ok (.istore_n 3, 1) := by decide +kernel
theorem dX0_expectingOn_4 : decode cX0_expectingOn 4 = .ok (.iload_n 3, 1) := by decide +kernel
theorem dX0_expectingOn_5 : decode cX0_expectingOn 5 = .ok (.aload_n 0, 1) := by decide +kernel
theorem dX0_expectingOn_6 : decode cX0_expectingOn 6 = .ok (.getfield 44, 3) := by decide +kernel
theorem dX0_expectingOn_9 : decode cX0_expectingOn 9 = .ok (.if_icmp .ge 27, 3) := by decide +kernel
theorem dX0_expectingOn_12 : decode cX0_expectingOn 12 = .ok (.aload_n 0, 1) := by decide +kernel
theorem dX0_expectingOn_13 : decode cX0_expectingOn 13 = .ok (.iload_n 3, 1) := by decide +kernel
theorem dX0_expectingOn_14 : decode cX0_expectingOn 14 = .ok (.invokevirtual 127, 3) := by decide +kernel
theorem dX0_expectingOn_17 : decode cX0_expectingOn 17 = .ok (.iload_n 1, 1) := by decide +kernel
theorem dX0_expectingOn_18 : decode cX0_expectingOn 18 = .ok (.invokestatic 68, 3) := by decide +kernel
theorem dX0_expectingOn_21 : decode cX0_expectingOn 21 = .ok (.ifCond .eq 9, 3) := by decide +kernel
theorem dX0_expectingOn_24 : decode cX0_expectingOn 24 = .ok (.iload_n 2, 1) := by decide +kernel
theorem dX0_expectingOn_25 : decode cX0_expectingOn 25 = .ok (.iconst 1, 1) := by decide +kernel
theorem dX0_expectingOn_26 : decode cX0_expectingOn 26 = .ok (.iload_n 3, 1) := by decide +kernel
theorem dX0_expectingOn_27 : decode cX0_expectingOn 27 = .ok (.ishl, 1) := by decide +kernel
theorem dX0_expectingOn_28 : decode cX0_expectingOn 28 = .ok (.ior, 1) := by decide +kernel
theorem dX0_expectingOn_29 : decode cX0_expectingOn 29 = .ok (.istore_n 2, 1) := by decide +kernel
theorem dX0_expectingOn_30 : decode cX0_expectingOn 30 = .ok (.iinc 3 1, 3) := by decide +kernel
theorem dX0_expectingOn_33 : decode cX0_expectingOn 33 = .ok (.goto (-29), 3) := by decide +kernel
theorem dX0_expectingOn_36 : decode cX0_expectingOn 36 = .ok (.iload_n 2, 1) := by decide +kernel
theorem dX0_expectingOn_37 : decode cX0_expectingOn 37 = .ok (.ireturn, 1) := by decide +kernel
theorem dX0_canForesee_0 : decode cX0_canForesee 0 = .ok (.aload_n 0, 1) := by decide +kernel
theorem dX0_canForesee_1 : decode cX0_canForesee 1 = .ok (.getfield 19, 3) := by decide +kernel
theorem dX0_canForesee_4 : decode cX0_canForesee 4 = .ok (.iload_n 2, 1) := by decide +kernel
theorem dX0_canForesee_5 : decode cX0_canForesee 5 = .ok (.iaload, 1) := by decide +kernel
theorem dX0_canForesee_6 : decode cX0_canForesee 6 = .ok (.iconst 2, 1) := by decide +kernel
theorem dX0_canForesee_7 : decode cX0_canForesee 7 = .ok (.invokestatic 109, 3) := by decide +kernel
theorem dX0_canForesee_10 : decode cX0_canForesee 10 = .ok (.ifCond .ne 20, 3) := by decide +kernel
theorem dX0_canForesee_13 : decode cX0_canForesee 13 = .ok (.aload_n 0, 1) := by decide +kernel
theorem dX0_canForesee_14 : decode cX0_canForesee 14 = .ok (.iload_n 2, 1) := by decide +kernel
theorem dX0_canForesee_15 : decode cX0_canForesee 15 = .ok (.invokevirtual 100, 3) := by decide +kernel
theorem dX0_canForesee_18 : decode cX0_canForesee 18 = .ok (.aload_n 0, 1) := by decide +kernel
theorem dX0_canForesee_19 : decode cX0_canForesee 19 = .ok (.iload_n 1, 1) := by decide +kernel
theorem dX0_canForesee_20 : decode cX0_canForesee 20 = .ok (.invokevirtual 100, 3) := by decide +kernel
theorem dX0_canForesee_23 : decode cX0_canForesee 23 = .ok (.if_icmp .ge 7, 3) := by decide +kernel
theorem dX0_canForesee_26 : decode cX0_canForesee 26 = .ok (.iconst 1, 1) := by decide +kernel
theorem dX0_canForesee_27 : decode cX0_canForesee 27 = .ok (.goto 4, 3) := by decide +kernel
theorem dX0_canForesee_30 : decode cX0_canForesee 30 = .ok (.iconst 0, 1) := by decide +kernel
theorem dX0_canForesee_31 : decode cX0_canForesee 31 = .ok (.ireturn, 1) := by decide +kernel
theorem dX0_morningByRule_0 : decode cX0_morningByRule 0 = .ok (.aload_n 0, 1) := by decide +kernel
theorem dX0_morningByRule_1 : decode cX0_morningByRule 1 = .ok (.getfield 32, 3) := by decide +kernel
theorem dX0_morningByRule_4 : decode cX0_morningByRule 4 = .ok (.ifCond .ne 7, 3) := by decide +kernel
theorem dX0_morningByRule_7 : decode cX0_morningByRule 7 = .ok (.iconst 0, 1) := by decide +kernel
theorem dX0_morningByRule_8 : decode cX0_morningByRule 8 = .ok (.goto 13, 3) := by decide +kernel
theorem dX0_morningByRule_11 : decode cX0_morningByRule 11 = .ok (.iload_n 1, 1) := by decide +kernel
theorem dX0_morningByRule_12 : decode cX0_morningByRule 12 = .ok (.iload_n 2, 1) := by decide +kernel
theorem dX0_morningByRule_13 : decode cX0_morningByRule 13 = .ok (.iload_n 3, 1) := by decide +kernel
theorem dX0_morningByRule_14 : decode cX0_morningByRule 14 = .ok (.imul, 1) := by decide +kernel
theorem dX0_morningByRule_15 : decode cX0_morningByRule 15 = .ok (.iadd, 1) := by decide +kernel
theorem dX0_morningByRule_16 : decode cX0_morningByRule 16 = .ok (.aload_n 0, 1) := by decide +kernel
theorem dX0_morningByRule_17 : decode cX0_morningByRule 17 = .ok (.getfield 32, 3) := by decide +kernel
theorem dX0_morningByRule_20 : decode cX0_morningByRule 20 = .ok (.irem, 1) := by decide +kernel
theorem dX0_morningByRule_21 : decode cX0_morningByRule 21 = .ok (.ireturn, 1) := by decide +kernel
theorem dX0_putAllOnLast_0 : decode cX0_putAllOnLast 0 = .ok (.iconst 0, 1) := by decide +kernel
theorem dX0_putAllOnLast_1 : decode cX0_putAllOnLast 1 = .ok (.istore_n 2, 1) := by decide +kernel
theorem dX0_putAllOnLast_2 : decode cX0_putAllOnLast 2 = .ok (.iload_n 2, 1) := by decide +kernel
theorem dX0_putAllOnLast_3 : decode cX0_putAllOnLast 3 = .ok (.bipush 9, 2) := by decide +kernel
theorem dX0_putAllOnLast_5 : decode cX0_putAllOnLast 5 = .ok (.if_icmp .ge 16, 3) := by decide +kernel
theorem dX0_putAllOnLast_8 : decode cX0_putAllOnLast 8 = .ok (.aload_n 0, 1) := by decide +kernel
theorem dX0_putAllOnLast_9 : decode cX0_putAllOnLast 9 = .ok (.getfield 9, 3) := by decide +kernel
theorem dX0_putAllOnLast_12 : decode cX0_putAllOnLast 12 = .ok (.iload_n 2, 1) := by decide +kernel
theorem dX0_putAllOnLast_13 : decode cX0_putAllOnLast 13 = .ok (.iconst 0, 1) := by decide +kernel
theorem dX0_putAllOnLast_14 : decode cX0_putAllOnLast 14 = .ok (.iastore, 1) := by decide +kernel
theorem dX0_putAllOnLast_15 : decode cX0_putAllOnLast 15 = .ok (.iinc 2 1, 3) := by decide +kernel
theorem dX0_putAllOnLast_18 : decode cX0_putAllOnLast 18 = .ok (.goto (-16), 3) := by decide +kernel
theorem dX0_putAllOnLast_21 : decode cX0_putAllOnLast 21 = .ok (.aload_n 0, 1) := by decide +kernel
theorem dX0_putAllOnLast_22 : decode cX0_putAllOnLast 22 = .ok (.getfield 35, 3) := by decide +kernel
theorem dX0_putAllOnLast_25 : decode cX0_putAllOnLast 25 = .ok (.invokestatic 106, 3) := by decide +kernel
theorem dX0_putAllOnLast_28 : decode cX0_putAllOnLast 28 = .ok (.istore_n 2, 1) := by decide +kernel
theorem dX0_putAllOnLast_29 : decode cX0_putAllOnLast 29 = .ok (.iload_n 2, 1) := by decide +kernel
theorem dX0_putAllOnLast_30 : decode cX0_putAllOnLast 30 = .ok (.iconst (-1), 1) := by decide +kernel
theorem dX0_putAllOnLast_31 : decode cX0_putAllOnLast 31 = .ok (.if_icmp .eq 10, 3) := by decide +kernel
theorem dX0_putAllOnLast_34 : decode cX0_putAllOnLast 34 = .ok (.aload_n 0, 1) := by decide +kernel
theorem dX0_putAllOnLast_35 : decode cX0_putAllOnLast 35 = .ok (.getfield 9, 3) := by decide +kernel
theorem dX0_putAllOnLast_38 : decode cX0_putAllOnLast 38 = .ok (.iload_n 2, 1) := by decide +kernel
theorem dX0_putAllOnLast_39 : decode cX0_putAllOnLast 39 = .ok (.iload_n 1, 1) := by decide +kernel
theorem dX0_putAllOnLast_40 : decode cX0_putAllOnLast 40 = .ok (.iastore, 1) := by decide +kernel
theorem dX0_putAllOnLast_41 : decode cX0_putAllOnLast 41 = .ok (.return_, 1) := by decide +kernel
theorem dX0_moveToNextRow_0 : decode cX0_moveToNextRow 0 = .ok (.aload_n 0, 1) := by decide +kernel
theorem dX0_moveToNextRow_1 : decode cX0_moveToNextRow 1 = .ok (.invokevirtual 130, 3) := by decide +kernel
theorem dX0_moveToNextRow_4 : decode cX0_moveToNextRow 4 = .ok (.istore_n 1, 1) := by decide +kernel
theorem dX0_moveToNextRow_5 : decode cX0_moveToNextRow 5 = .ok (.iload_n 1, 1) := by decide +kernel
theorem dX0_moveToNextRow_6 : decode cX0_moveToNextRow 6 = .ok (.iconst (-1), 1) := by decide +kernel
theorem dX0_moveToNextRow_7 : decode cX0_moveToNextRow 7 = .ok (.if_icmp .ne 5, 3) := by decide +kernel
theorem dX0_moveToNextRow_10 : decode cX0_moveToNextRow 10 = .ok (.iconst 0, 1) := by decide +kernel
theorem dX0_moveToNextRow_11 : decode cX0_moveToNextRow 11 = .ok (.ireturn, 1) := by decide +kernel
theorem dX0_moveToNextRow_12 : decode cX0_moveToNextRow 12 = .ok (.aload_n 0, 1) := by decide +kernel
theorem dX0_moveToNextRow_13 : decode cX0_moveToNextRow 13 = .ok (.getfield 35, 3) := by decide +kernel
theorem dX0_moveToNextRow_16 : decode cX0_moveToNextRow 16 = .ok (.iconst 1, 1) := by decide +kernel
theorem dX0_moveToNextRow_17 : decode cX0_moveToNextRow 17 = .ok (.iload_n 1, 1) := by decide +kernel
theorem dX0_moveToNextRow_18 : decode cX0_moveToNextRow 18 = .ok (.ishl, 1) := by decide +kernel
theorem dX0_moveToNextRow_19 : decode cX0_moveToNextRow 19 = .ok (.iconst 1, 1) := by decide +kernel
theorem dX0_moveToNextRow_20 : decode cX0_moveToNextRow 20 = .ok (.isub, 1) := by decide +kernel
theorem dX0_moveToNextRow_21 : decode cX0_moveToNextRow 21 = .ok (.iand, 1) := by decide +kernel
theorem dX0_moveToNextRow_22 : decode cX0_moveToNextRow 22 = .ok (.invokestatic 106, 3) := by decide +kernel
theorem dX0_moveToNextRow_25 : decode cX0_moveToNextRow 25 = .ok (.istore_n 2, 1) := by decide +kernel
theorem dX0_moveToNextRow_26 : decode cX0_moveToNextRow 26 = .ok (.iload_n 2, 1) := by decide +kernel
theorem dX0_moveToNextRow_27 : decode cX0_moveToNextRow 27 = .ok (.iconst (-1), 1) := by decide +kernel
theorem dX0_moveToNextRow_28 : decode cX0_moveToNextRow 28 = .ok (.if_icmp .ne 5, 3) := by decide +kernel
theorem dX0_moveToNextRow_31 : decode cX0_moveToNextRow 31 = .ok (.iconst 0, 1) := by decide +kernel
theorem dX0_moveToNextRow_32 : decode cX0_moveToNextRow 32 = .ok (.ireturn, 1) := by decide +kernel
theorem dX0_moveToNextRow_33 : decode cX0_moveToNextRow 33 = .ok (.aload_n 0, 1) := by decide +kernel
theorem dX0_moveToNextRow_34 : decode cX0_moveToNextRow 34 = .ok (.getfield 9, 3) := by decide +kernel
theorem dX0_moveToNextRow_37 : decode cX0_moveToNextRow 37 = .ok (.iload_n 1, 1) := by decide +kernel
theorem dX0_moveToNextRow_38 : decode cX0_moveToNextRow 38 = .ok (.iaload, 1) := by decide +kernel
theorem dX0_moveToNextRow_39 : decode cX0_moveToNextRow 39 = .ok (.iconst 1, 1) := by decide +kernel
theorem dX0_moveToNextRow_40 : decode cX0_moveToNextRow 40 = .ok (.isub, 1) := by decide +kernel
theorem dX0_moveToNextRow_41 : decode cX0_moveToNextRow 41 = .ok (.istore_n 3, 1) := by decide +kernel
theorem dX0_moveToNextRow_42 : decode cX0_moveToNextRow 42 = .ok (.aload_n 0, 1) := by decide +kernel
theorem dX0_moveToNextRow_43 : decode cX0_moveToNextRow 43 = .ok (.getfield 9, 3) := by decide +kernel
theorem dX0_moveToNextRow_46 : decode cX0_moveToNextRow 46 = .ok (.iload_n 1, 1) := by decide +kernel
theorem dX0_moveToNextRow_47 : decode cX0_moveToNextRow 47 = .ok (.iconst 0, 1) := by decide +kernel
theorem dX0_moveToNextRow_48 : decode cX0_moveToNextRow 48 = .ok (.iastore, 1) := by decide +kernel
theorem dX0_moveToNextRow_49 : decode cX0_moveToNextRow 49 = .ok (.aload_n 0, 1) := by decide +kernel
theorem dX0_moveToNextRow_50 : decode cX0_moveToNextRow 50 = .ok (.getfield 9, 3) := by decide +kernel
theorem dX0_moveToNextRow_53 : decode cX0_moveToNextRow 53 = .ok (.iload_n 2, 1) := by decide +kernel
theorem dX0_moveToNextRow_54 : decode cX0_moveToNextRow 54 = .ok (.dup2, 1) := by decide +kernel
theorem dX0_moveToNextRow_55 : decode cX0_moveToNextRow 55 = .ok (.iaload, 1) := by decide +kernel
theorem dX0_moveToNextRow_56 : decode cX0_moveToNextRow 56 = .ok (.iconst 1, 1) := by decide +kernel
theorem dX0_moveToNextRow_57 : decode cX0_moveToNextRow 57 = .ok (.iadd, 1) := by decide +kernel
theorem dX0_moveToNextRow_58 : decode cX0_moveToNextRow 58 = .ok (.iastore, 1) := by decide +kernel
theorem dX0_moveToNextRow_59 : decode cX0_moveToNextRow 59 = .ok (.aload_n 0, 1) := by decide +kernel
theorem dX0_moveToNextRow_60 : decode cX0_moveToNextRow 60 = .ok (.getfield 9, 3) := by decide +kernel
theorem dX0_moveToNextRow_63 : decode cX0_moveToNextRow 63 = .ok (.aload_n 0, 1) := by decide +kernel
theorem dX0_moveToNextRow_64 : decode cX0_moveToNextRow 64 = .ok (.getfield 35, 3) := by decide +kernel
theorem dX0_moveToNextRow_67 : decode cX0_moveToNextRow 67 = .ok (.invokestatic 106, 3) := by decide +kernel
theorem dX0_moveToNextRow_70 : decode cX0_moveToNextRow 70 = .ok (.iload_n 3, 1) := by decide +kernel
theorem dX0_moveToNextRow_71 : decode cX0_moveToNextRow 71 = .ok (.iastore, 1) := by decide +kernel
theorem dX0_moveToNextRow_72 : decode cX0_moveToNextRow 72 = .ok (.iconst 1, 1) := by decide +kernel
theorem dX0_moveToNextRow_73 : decode cX0_moveToNextRow 73 = .ok (.ireturn, 1) := by decide +kernel
theorem dX0_lastWeighed_0 : decode cX0_lastWeighed 0 = .ok (.aload_n 0, 1) := by decide +kernel
theorem dX0_lastWeighed_1 : decode cX0_lastWeighed 1 = .ok (.getfield 32, 3) := by decide +kernel
theorem dX0_lastWeighed_4 : decode cX0_lastWeighed 4 = .ok (.iconst 1, 1) := by decide +kernel
theorem dX0_lastWeighed_5 : decode cX0_lastWeighed 5 = .ok (.isub, 1) := by decide +kernel
theorem dX0_lastWeighed_6 : decode cX0_lastWeighed 6 = .ok (.istore_n 1, 1) := by decide +kernel
theorem dX0_lastWeighed_7 : decode cX0_lastWeighed 7 = .ok (.iload_n 1, 1) := by decide +kernel
theorem dX0_lastWeighed_8 : decode cX0_lastWeighed 8 = .ok (.ifCond .lt 20, 3) := by decide +kernel
theorem dX0_lastWeighed_11 : decode cX0_lastWeighed 11 = .ok (.aload_n 0, 1) := by decide +kernel
theorem dX0_lastWeighed_12 : decode cX0_lastWeighed 12 = .ok (.getfield 9, 3) := by decide +kernel
theorem dX0_lastWeighed_15 : decode cX0_lastWeighed 15 = .ok (.iload_n 1, 1) := by decide +kernel
theorem dX0_lastWeighed_16 : decode cX0_lastWeighed 16 = .ok (.iaload, 1) := by decide +kernel
theorem dX0_lastWeighed_17 : decode cX0_lastWeighed 17 = .ok (.ifCond .eq 5, 3) := by decide +kernel
theorem dX0_lastWeighed_20 : decode cX0_lastWeighed 20 = .ok (.iload_n 1, 1) := by decide +kernel
theorem dX0_lastWeighed_21 : decode cX0_lastWeighed 21 = .ok (.ireturn, 1) := by decide +kernel
theorem dX0_lastWeighed_22 : decode cX0_lastWeighed 22 = .ok (.iinc 1 (-1), 3) := by decide +kernel
theorem dX0_lastWeighed_25 : decode cX0_lastWeighed 25 = .ok (.goto (-18), 3) := by decide +kernel
theorem dX0_lastWeighed_28 : decode cX0_lastWeighed 28 = .ok (.iconst (-1), 1) := by decide +kernel
theorem dX0_lastWeighed_29 : decode cX0_lastWeighed 29 = .ok (.ireturn, 1) := by decide +kernel
theorem dX0_goThroughTerm_0 : decode cX0_goThroughTerm 0 = .ok (.aload_n 0, 1) := by decide +kernel
theorem dX0_goThroughTerm_1 : decode cX0_goThroughTerm 1 = .ok (.invokevirtual 133, 3) := by decide +kernel
theorem dX0_goThroughTerm_4 : decode cX0_goThroughTerm 4 = .ok (.istore_n 1, 1) := by decide +kernel
theorem dX0_goThroughTerm_5 : decode cX0_goThroughTerm 5 = .ok (.iload_n 1, 1) := by decide +kernel
theorem dX0_goThroughTerm_6 : decode cX0_goThroughTerm 6 = .ok (.iconst (-1), 1) := by decide +kernel
theorem dX0_goThroughTerm_7 : decode cX0_goThroughTerm 7 = .ok (.if_icmp .ne 5, 3) := by decide +kernel
theorem dX0_goThroughTerm_10 : decode cX0_goThroughTerm 10 = .ok (.iconst (-1), 1) := by decide +kernel
theorem dX0_goThroughTerm_11 : decode cX0_goThroughTerm 11 = .ok (.ireturn, 1) := by decide +kernel
theorem dX0_goThroughTerm_12 : decode cX0_goThroughTerm 12 = .ok (.aload_n 0, 1) := by decide +kernel
theorem dX0_goThroughTerm_13 : decode cX0_goThroughTerm 13 = .ok (.iload_n 1, 1) := by decide +kernel
theorem dX0_goThroughTerm_14 : decode cX0_goThroughTerm 14 = .ok (.invokevirtual 136, 3) := by decide +kernel
theorem dX0_goThroughTerm_17 : decode cX0_goThroughTerm 17 = .ok (.invokestatic 139, 3) := by decide +kernel
theorem dX0_goThroughTerm_20 : decode cX0_goThroughTerm 20 = .ok (.istore_n 2, 1) := by decide +kernel
theorem dX0_goThroughTerm_21 : decode cX0_goThroughTerm 21 = .ok (.aload_n 0, 1) := by decide +kernel
theorem dX0_goThroughTerm_22 : decode cX0_goThroughTerm 22 = .ok (.dup, 1) := by decide +kernel
theorem dX0_goThroughTerm_23 : decode cX0_goThroughTerm 23 = .ok (.getfield 50, 3) := by decide +kernel
theorem dX0_goThroughTerm_26 : decode cX0_goThroughTerm 26 = .ok (.aload_n 0, 1) := by decide +kernel
theorem dX0_goThroughTerm_27 : decode cX0_goThroughTerm 27 = .ok (.getfield 44, 3) := by decide +kernel
theorem dX0_goThroughTerm_30 : decode cX0_goThroughTerm 30 = .ok (.iload_n 2, 1) := by decide +kernel
theorem dX0_goThroughTerm_31 : decode cX0_goThroughTerm 31 = .ok (.isub, 1) := by decide +kernel
theorem dX0_goThroughTerm_32 : decode cX0_goThroughTerm 32 = .ok (.iadd, 1) := by decide +kernel
theorem dX0_goThroughTerm_33 : decode cX0_goThroughTerm 33 = .ok (.putfield 50, 3) := by decide +kernel
theorem dX0_goThroughTerm_36 : decode cX0_goThroughTerm 36 = .ok (.iload_n 2, 1) := by decide +kernel
theorem dX0_goThroughTerm_37 : decode cX0_goThroughTerm 37 = .ok (.ifCond .le 13, 3) := by decide +kernel
theorem dX0_goThroughTerm_40 : decode cX0_goThroughTerm 40 = .ok (.aload_n 0, 1) := by decide +kernel
theorem dX0_goThroughTerm_41 : decode cX0_goThroughTerm 41 = .ok (.dup, 1) := by decide +kernel
theorem dX0_goThroughTerm_42 : decode cX0_goThroughTerm 42 = .ok (.getfield 53, 3) := by decide +kernel
theorem dX0_goThroughTerm_45 : decode cX0_goThroughTerm 45 = .ok (.iconst 1, 1) := by decide +kernel
theorem dX0_goThroughTerm_46 : decode cX0_goThroughTerm 46 = .ok (.iadd, 1) := by decide +kernel
theorem dX0_goThroughTerm_47 : decode cX0_goThroughTerm 47 = .ok (.putfield 53, 3) := by decide +kernel
theorem dX0_goThroughTerm_50 : decode cX0_goThroughTerm 50 = .ok (.aload_n 0, 1) := by decide +kernel
theorem dX0_goThroughTerm_51 : decode cX0_goThroughTerm 51 = .ok (.dup, 1) := by decide +kernel
theorem dX0_goThroughTerm_52 : decode cX0_goThroughTerm 52 = .ok (.getfield 47, 3) := by decide +kernel
theorem dX0_goThroughTerm_55 : decode cX0_goThroughTerm 55 = .ok (.iconst 1, 1) := by decide +kernel
theorem dX0_goThroughTerm_56 : decode cX0_goThroughTerm 56 = .ok (.iadd, 1) := by decide +kernel
theorem dX0_goThroughTerm_57 : decode cX0_goThroughTerm 57 = .ok (.putfield 47, 3) := by decide +kernel
theorem dX0_goThroughTerm_60 : decode cX0_goThroughTerm 60 = .ok (.iload_n 1, 1) := by decide +kernel
theorem dX0_goThroughTerm_61 : decode cX0_goThroughTerm 61 = .ok (.ireturn, 1) := by decide +kernel
theorem dX0_drawMorning_0 : decode cX0_drawMorning 0 = .ok (.aload_n 0, 1) := by decide +kernel
theorem dX0_drawMorning_1 : decode cX0_drawMorning 1 = .ok (.aload_n 0, 1) := by decide +kernel
theorem dX0_drawMorning_2 : decode cX0_drawMorning 2 = .ok (.getfield 35, 3) := by decide +kernel
theorem dX0_drawMorning_5 : decode cX0_drawMorning 5 = .ok (.invokevirtual 82, 3) := by decide +kernel
theorem dX0_drawMorning_8 : decode cX0_drawMorning 8 = .ok (.istore_n 1, 1) := by decide +kernel
theorem dX0_drawMorning_9 : decode cX0_drawMorning 9 = .ok (.iload_n 1, 1) := by decide +kernel
theorem dX0_drawMorning_10 : decode cX0_drawMorning 10 = .ok (.ifCond .ne 5, 3) := by decide +kernel
theorem dX0_drawMorning_13 : decode cX0_drawMorning 13 = .ok (.iconst (-1), 1) := by decide +kernel
theorem dX0_drawMorning_14 : decode cX0_drawMorning 14 = .ok (.ireturn, 1) := by decide +kernel
theorem dX0_drawMorning_15 : decode cX0_drawMorning 15 = .ok (.aload_n 0, 1) := by decide +kernel
theorem dX0_drawMorning_16 : decode cX0_drawMorning 16 = .ok (.iload_n 1, 1) := by decide +kernel
theorem dX0_drawMorning_17 : decode cX0_drawMorning 17 = .ok (.invokevirtual 144, 3) := by decide +kernel
theorem dX0_drawMorning_20 : decode cX0_drawMorning 20 = .ok (.istore_n 2, 1) := by decide +kernel
theorem dX0_drawMorning_21 : decode cX0_drawMorning 21 = .ok (.iconst 0, 1) := by decide +kernel
theorem dX0_drawMorning_22 : decode cX0_drawMorning 22 = .ok (.istore_n 3, 1) := by decide +kernel
theorem dX0_drawMorning_23 : decode cX0_drawMorning 23 = .ok (.iload_n 3, 1) := by decide +kernel
theorem dX0_drawMorning_24 : decode cX0_drawMorning 24 = .ok (.aload_n 0, 1) := by decide +kernel
theorem dX0_drawMorning_25 : decode cX0_drawMorning 25 = .ok (.getfield 32, 3) := by decide +kernel
theorem dX0_drawMorning_28 : decode cX0_drawMorning 28 = .ok (.if_icmp .ge 23, 3) := by decide +kernel
theorem dX0_drawMorning_31 : decode cX0_drawMorning 31 = .ok (.iload_n 2, 1) := by decide +kernel
theorem dX0_drawMorning_32 : decode cX0_drawMorning 32 = .ok (.aload_n 0, 1) := by decide +kernel
theorem dX0_drawMorning_33 : decode cX0_drawMorning 33 = .ok (.iload_n 3, 1) := by decide +kernel
theorem dX0_drawMorning_34 : decode cX0_drawMorning 34 = .ok (.invokevirtual 75, 3) := by decide +kernel
theorem dX0_drawMorning_37 : decode cX0_drawMorning 37 = .ok (.isub, 1) := by decide +kernel
theorem dX0_drawMorning_38 : decode cX0_drawMorning 38 = .ok (.istore_n 2, 1) := by decide +kernel
theorem dX0_drawMorning_39 : decode cX0_drawMorning 39 = .ok (.iload_n 2, 1) := by decide +kernel
theorem dX0_drawMorning_40 : decode cX0_drawMorning 40 = .ok (.ifCond .ge 5, 3) := by decide +kernel
theorem dX0_drawMorning_43 : decode cX0_drawMorning 43 = .ok (.iload_n 3, 1) := by decide +kernel
theorem dX0_drawMorning_44 : decode cX0_drawMorning 44 = .ok (.ireturn, 1) := by decide +kernel
theorem dX0_drawMorning_45 : decode cX0_drawMorning 45 = .ok (.iinc 3 1, 3) := by decide +kernel
theorem dX0_drawMorning_48 : decode cX0_drawMorning 48 = .ok (.goto (-25), 3) := by decide +kernel
theorem dX0_drawMorning_51 : decode cX0_drawMorning 51 = .ok (.iconst (-1), 1) := by decide +kernel
theorem dX0_drawMorning_52 : decode cX0_drawMorning 52 = .ok (.ireturn, 1) := by decide +kernel
theorem dX0_drawBelow_0 : decode cX0_drawBelow 0 = .ok (.aload_n 0, 1) := by decide +kernel
theorem dX0_drawBelow_1 : decode cX0_drawBelow 1 = .ok (.aload_n 0, 1) := by decide +kernel
theorem dX0_drawBelow_2 : decode cX0_drawBelow 2 = .ok (.getfield 25, 3) := by decide +kernel
theorem dX0_drawBelow_5 : decode cX0_drawBelow 5 = .ok (.ldc 147, 2) := by decide +kernel
theorem dX0_drawBelow_7 : decode cX0_drawBelow 7 = .ok (.imul, 1) := by decide +kernel
theorem dX0_drawBelow_8 : decode cX0_drawBelow 8 = .ok (.sipush 12345, 3) := by decide +kernel
theorem dX0_drawBelow_11 : decode cX0_drawBelow 11 = .ok (.iadd, 1) := by decide +kernel
theorem dX0_drawBelow_12 : decode cX0_drawBelow 12 = .ok (.putfield 25, 3) := by decide +kernel
theorem dX0_drawBelow_15 : decode cX0_drawBelow 15 = .ok (.iload_n 1, 1) := by decide +kernel
theorem dX0_drawBelow_16 : decode cX0_drawBelow 16 = .ok (.ifCond .ne 7, 3) := by decide +kernel
theorem dX0_drawBelow_19 : decode cX0_drawBelow 19 = .ok (.iconst 0, 1) := by decide +kernel
theorem dX0_drawBelow_20 : decode cX0_drawBelow 20 = .ok (.goto 12, 3) := by decide +kernel
theorem dX0_drawBelow_23 : decode cX0_drawBelow 23 = .ok (.aload_n 0, 1) := by decide +kernel
theorem dX0_drawBelow_24 : decode cX0_drawBelow 24 = .ok (.getfield 25, 3) := by decide +kernel
theorem dX0_drawBelow_27 : decode cX0_drawBelow 27 = .ok (.bipush 16, 2) := by decide +kernel
theorem dX0_drawBelow_29 : decode cX0_drawBelow 29 = .ok (.iushr, 1) := by decide +kernel
theorem dX0_drawBelow_30 : decode cX0_drawBelow 30 = .ok (.iload_n 1, 1) := by decide +kernel
theorem dX0_drawBelow_31 : decode cX0_drawBelow 31 = .ok (.irem, 1) := by decide +kernel
theorem dX0_drawBelow_32 : decode cX0_drawBelow 32 = .ok (.ireturn, 1) := by decide +kernel
theorem dX1_init_0 : decode cX1_init 0 = .ok (.aload_n 0, 1) := by decide +kernel
theorem dX1_init_1 : decode cX1_init 1 = .ok (.invokespecial 3, 3) := by decide +kernel
theorem dX1_init_4 : decode cX1_init 4 = .ok (.aload_n 0, 1) := by decide +kernel
theorem dX1_init_5 : decode cX1_init 5 = .ok (.iconst (-1), 1) := by decide +kernel
theorem dX1_init_6 : decode cX1_init 6 = .ok (.putfield 9, 3) := by decide +kernel
theorem dX1_init_9 : decode cX1_init 9 = .ok (.aload_n 0, 1) := by decide +kernel
theorem dX1_init_10 : decode cX1_init 10 = .ok (.bipush 40, 2) := by decide +kernel
theorem dX1_init_12 : decode cX1_init 12 = .ok (.newarray .long, 2) := by decide +kernel
theorem dX1_init_14 : decode cX1_init 14 = .ok (.putfield 15, 3) := by decide +kernel
theorem dX1_init_17 : decode cX1_init 17 = .ok (.return_, 1) := by decide +kernel
theorem dX1_holdNothing_0 : decode cX1_holdNothing 0 = .ok (.aload_n 0, 1) := by decide +kernel
theorem dX1_holdNothing_1 : decode cX1_holdNothing 1 = .ok (.iconst (-1), 1) := by decide +kernel
theorem dX1_holdNothing_2 : decode cX1_holdNothing 2 = .ok (.putfield 9, 3) := by decide +kernel
theorem dX1_holdNothing_5 : decode cX1_holdNothing 5 = .ok (.aload_n 0, 1) := by decide +kernel
theorem dX1_holdNothing_6 : decode cX1_holdNothing 6 = .ok (.iconst 0, 1) := by decide +kernel
theorem dX1_holdNothing_7 : decode cX1_holdNothing 7 = .ok (.putfield 19, 3) := by decide +kernel
theorem dX1_holdNothing_10 : decode cX1_holdNothing 10 = .ok (.return_, 1) := by decide +kernel
theorem dX1_holdSomebody_0 : decode cX1_holdSomebody 0 = .ok (.aload_n 0, 1) := by decide +kernel
theorem dX1_holdSomebody_1 : decode cX1_holdSomebody 1 = .ok (.bipush 10, 2) := by decide +kernel
theorem dX1_holdSomebody_3 : decode cX1_holdSomebody 3 = .ok (.iload_n 1, 1) := by decide +kernel
theorem dX1_holdSomebody_4 : decode cX1_holdSomebody 4 = .ok (.iadd, 1) := by decide +kernel
theorem dX1_holdSomebody_5 : decode cX1_holdSomebody 5 = .ok (.putfield 9, 3) := by decide +kernel
theorem dX1_holdSomebody_8 : decode cX1_holdSomebody 8 = .ok (.aload_n 0, 1) := by decide +kernel
theorem dX1_holdSomebody_9 : decode cX1_holdSomebody 9 = .ok (.iconst 0, 1) := by decide +kernel
theorem dX1_holdSomebody_10 : decode cX1_holdSomebody 10 = .ok (.putfield 19, 3) := by decide +kernel
theorem dX1_holdSomebody_13 : decode cX1_holdSomebody 13 = .ok (.return_, 1) := by decide +kernel
theorem dX1_holdRow_0 : decode cX1_holdRow 0 = .ok (.aload_n 0, 1) := by decide +kernel
theorem dX1_holdRow_1 : decode cX1_holdRow 1 = .ok (.iload_n 1, 1) := by decide +kernel
theorem dX1_holdRow_2 : decode cX1_holdRow 2 = .ok (.putfield 9, 3) := by decide +kernel
theorem dX1_holdRow_5 : decode cX1_holdRow 5 = .ok (.aload_n 0, 1) := by decide +kernel
theorem dX1_holdRow_6 : decode cX1_holdRow 6 = .ok (.iload_n 2, 1) := by decide +kernel
theorem dX1_holdRow_7 : decode cX1_holdRow 7 = .ok (.putfield 19, 3) := by decide +kernel
theorem dX1_holdRow_10 : decode cX1_holdRow 10 = .ok (.iconst 0, 1) := by decide +kernel
theorem dX1_holdRow_11 : decode cX1_holdRow 11 = .ok (.istore_n 3, 1) := by decide +kernel
theorem dX1_holdRow_12 : decode cX1_holdRow 12 = .ok (.iload_n 3, 1) := by decide +kernel
theorem dX1_holdRow_13 : decode cX1_holdRow 13 = .ok (.bipush 40, 2) := by decide +kernel
theorem dX1_holdRow_15 : decode cX1_holdRow 15 = .ok (.if_icmp .ge 16, 3) := by decide +kernel
theorem dX1_holdRow_18 : decode cX1_holdRow 18 = .ok (.aload_n 0, 1) := by decide +kernel
theorem dX1_holdRow_19 : decode cX1_holdRow 19 = .ok (.getfield 15, 3) := by decide +kernel
theorem dX1_holdRow_22 : decode cX1_holdRow 22 = .ok (.iload_n 3, 1) := by decide +kernel
theorem dX1_holdRow_23 : decode cX1_holdRow 23 = .ok (.lconst 0, 1) := by decide +kernel
theorem dX1_holdRow_24 : decode cX1_holdRow 24 = .ok (.lastore, 1) := by decide +kernel
theorem dX1_holdRow_25 : decode cX1_holdRow 25 = .ok (.iinc 3 1, 3) := by decide +kernel
theorem dX1_holdRow_28 : decode cX1_holdRow 28 = .ok (.goto (-16), 3) := by decide +kernel
theorem dX1_holdRow_31 : decode cX1_holdRow 31 = .ok (.return_, 1) := by decide +kernel
theorem dX1_holdsSomebody_0 : decode cX1_holdsSomebody 0 = .ok (.aload_n 0, 1) := by decide +kernel
theorem dX1_holdsSomebody_1 : decode cX1_holdsSomebody 1 = .ok (.getfield 9, 3) := by decide +kernel
theorem dX1_holdsSomebody_4 : decode cX1_holdsSomebody 4 = .ok (.bipush 10, 2) := by decide +kernel
theorem dX1_holdsSomebody_6 : decode cX1_holdsSomebody 6 = .ok (.if_icmp .lt 7, 3) := by decide +kernel
theorem dX1_holdsSomebody_9 : decode cX1_holdsSomebody 9 = .ok (.iconst 1, 1) := by decide +kernel
theorem dX1_holdsSomebody_10 : decode cX1_holdsSomebody 10 = .ok (.goto 4, 3) := by decide +kernel
theorem dX1_holdsSomebody_13 : decode cX1_holdsSomebody 13 = .ok (.iconst 0, 1) := by decide +kernel
theorem dX1_holdsSomebody_14 : decode cX1_holdsSomebody 14 = .ok (.ireturn, 1) := by decide +kernel
theorem dX1_holdsRow_0 : decode cX1_holdsRow 0 = .ok (.aload_n 0, 1) := by decide +kernel
theorem dX1_holdsRow_1 : decode cX1_holdsRow 1 = .ok (.getfield 9, 3) := by decide +kernel
theorem dX1_holdsRow_4 : decode cX1_holdsRow 4 = .ok (.iconst 0, 1) := by decide +kernel
theorem dX1_holdsRow_5 : decode cX1_holdsRow 5 = .ok (.iconst 4, 1) := by decide +kernel
theorem dX1_holdsRow_6 : decode cX1_holdsRow 6 = .ok (.invokestatic 22, 3) := by decide +kernel
theorem dX1_holdsRow_9 : decode cX1_holdsRow 9 = .ok (.ireturn, 1) := by decide +kernel
theorem dX1_hasElement_0 : decode cX1_hasElement 0 = .ok (.iload_n 1, 1) := by decide +kernel
theorem dX1_hasElement_1 : decode cX1_hasElement 1 = .ok (.iconst 0, 1) := by decide +kernel
theorem dX1_hasElement_2 : decode cX1_hasElement 2 = .ok (.aload_n 0, 1) := by decide +kernel
theorem dX1_hasElement_3 : decode cX1_hasElement 3 = .ok (.getfield 19, 3) := by decide +kernel
theorem dX1_hasElement_6 : decode cX1_hasElement 6 = .ok (.iconst 1, 1) := by decide +kernel
theorem dX1_hasElement_7 : decode cX1_hasElement 7 = .ok (.isub, 1) := by decide +kernel
theorem dX1_hasElement_8 : decode cX1_hasElement 8 = .ok (.invokestatic 22, 3) := by decide +kernel
theorem dX1_hasElement_11 : decode cX1_hasElement 11 = .ok (.ireturn, 1) := by decide +kernel
theorem dX1_hasElements_0 : decode cX1_hasElements 0 = .ok (.iload_n 1, 1) := by decide +kernel
theorem dX1_hasElements_1 : decode cX1_hasElements 1 = .ok (.ifCond .lt 21, 3) := by decide +kernel
theorem dX1_hasElements_4 : decode cX1_hasElements 4 = .ok (.iload_n 2, 1) := by decide +kernel
theorem dX1_hasElements_5 : decode cX1_hasElements 5 = .ok (.ifCond .lt 17, 3) := by decide +kernel
theorem dX1_hasElements_8 : decode cX1_hasElements 8 = .ok (.iload_n 2, 1) := by decide +kernel
theorem dX1_hasElements_9 : decode cX1_hasElements 9 = .ok (.aload_n 0, 1) := by decide +kernel
theorem dX1_hasElements_10 : decode cX1_hasElements 10 = .ok (.getfield 19, 3) := by decide +kernel
theorem dX1_hasElements_13 : decode cX1_hasElements 13 = .ok (.iload_n 1, 1) := by decide +kernel
theorem dX1_hasElements_14 : decode cX1_hasElements 14 = .ok (.isub, 1) := by decide +kernel
theorem dX1_hasElements_15 : decode cX1_hasElements 15 = .ok (.if_icmp .gt 7, 3) := by decide +kernel
theorem dX1_hasElements_18 : decode cX1_hasElements 18 = .ok (.iconst 1, 1) := by decide +kernel
theorem dX1_hasElements_19 : decode cX1_hasElements 19 = .ok (.goto 4, 3) := by decide +kernel
theorem dX1_hasElements_22 : decode cX1_hasElements 22 = .ok (.iconst 0, 1) := by decide +kernel
theorem dX1_hasElements_23 : decode cX1_hasElements 23 = .ok (.ireturn, 1) := by decide +kernel
theorem dX1_put_0 : decode cX1_put 0 = .ok (.aload_n 0, 1) := by decide +kernel
theorem dX1_put_1 : decode cX1_put 1 = .ok (.iload_n 1, 1) := by decide +kernel
theorem dX1_put_2 : decode cX1_put 2 = .ok (.invokevirtual 26, 3) := by decide +kernel
theorem dX1_put_5 : decode cX1_put 5 = .ok (.ifCond .eq 14, 3) := by decide +kernel
theorem dX1_put_8 : decode cX1_put 8 = .ok (.aload_n 0, 1) := by decide +kernel
theorem dX1_put_9 : decode cX1_put 9 = .ok (.getfield 15, 3) := by decide +kernel
theorem dX1_put_12 : decode cX1_put 12 = .ok (.iload_n 1, 1) := by decide +kernel
theorem dX1_put_13 : decode cX1_put 13 = .ok (.aload_n 0, 1) := by decide +kernel
theorem dX1_put_14 : decode cX1_put 14 = .ok (.lload_n 2, 1) := by decide +kernel
theorem dX1_put_15 : decode cX1_put 15 = .ok (.invokevirtual 30, 3) := by decide +kernel
theorem dX1_put_18 : decode cX1_put 18 = .ok (.lastore, 1) := by decide +kernel
theorem dX1_put_19 : decode cX1_put 19 = .ok (.return_, 1) := by decide +kernel
theorem dX1_cutToSort_0 : decode cX1_cutToSort 0 = .ok (.aload_n 0, 1) := by decide +kernel
theorem dX1_cutToSort_1 : decode cX1_cutToSort 1 = .ok (.getfield 9, 3) := by decide +kernel
theorem dX1_cutToSort_4 : decode cX1_cutToSort 4 = .ok (.tableswitch 62 0 4 #[36, 41, 46, 62, 50], 36) := by decide +kernel
theorem dX1_cutToSort_40 : decode cX1_cutToSort 40 = .ok (.lload_n 1, 1) := by decide +kernel
theorem dX1_cutToSort_41 : decode cX1_cutToSort 41 = .ok (.l2i, 1) := by decide +kernel
theorem dX1_cutToSort_42 : decode cX1_cutToSort 42 = .ok (.i2b, 1) := by decide +kernel
theorem dX1_cutToSort_43 : decode cX1_cutToSort 43 = .ok (.i2l, 1) := by decide +kernel
theorem dX1_cutToSort_44 : decode cX1_cutToSort 44 = .ok (.lreturn, 1) := by decide +kernel
theorem dX1_cutToSort_45 : decode cX1_cutToSort 45 = .ok (.lload_n 1, 1) := by decide +kernel
theorem dX1_cutToSort_46 : decode cX1_cutToSort 46 = .ok (.l2i, 1) := by decide +kernel
theorem dX1_cutToSort_47 : decode cX1_cutToSort 47 = .ok (.i2s, 1) := by decide +kernel
theorem dX1_cutToSort_48 : decode cX1_cutToSort 48 = .ok (.i2l, 1) := by decide +kernel
theorem dX1_cutToSort_49 : decode cX1_cutToSort 49 = .ok (.lreturn, 1) := by decide +kernel
theorem dX1_cutToSort_50 : decode cX1_cutToSort 50 = .ok (.lload_n 1, 1) := by decide +kernel
theorem dX1_cutToSort_51 : decode cX1_cutToSort 51 = .ok (.l2i, 1) := by decide +kernel
theorem dX1_cutToSort_52 : decode cX1_cutToSort 52 = .ok (.i2l, 1) := by decide +kernel
theorem dX1_cutToSort_53 : decode cX1_cutToSort 53 = .ok (.lreturn, 1) := by decide +kernel
theorem dX1_cutToSort_54 : decode cX1_cutToSort 54 = .ok (.lload_n 1, 1) := by decide +kernel
theorem dX1_cutToSort_55 : decode cX1_cutToSort 55 = .ok (.lconst 0, 1) := by decide +kernel
theorem dX1_cutToSort_56 : decode cX1_cutToSort 56 = .ok (.lcmp, 1) := by decide +kernel
theorem dX1_cutToSort_57 : decode cX1_cutToSort 57 = .ok (.ifCond .eq 7, 3) := by decide +kernel
theorem dX1_cutToSort_60 : decode cX1_cutToSort 60 = .ok (.lconst 1, 1) := by decide +kernel
theorem dX1_cutToSort_61 : decode cX1_cutToSort 61 = .ok (.goto 4, 3) := by decide +kernel
theorem dX1_cutToSort_64 : decode cX1_cutToSort 64 = .ok (.lconst 0, 1) := by decide +kernel
theorem dX1_cutToSort_65 : decode cX1_cutToSort 65 = .ok (.lreturn, 1) := by decide +kernel
theorem dX1_cutToSort_66 : decode cX1_cutToSort 66 = .ok (.lload_n 1, 1) := by decide +kernel
theorem dX1_cutToSort_67 : decode cX1_cutToSort 67 = .ok (.lreturn, 1) := by decide +kernel
theorem dX2_init_0 : decode cX2_init 0 = .ok (.aload_n 0, 1) := by decide +kernel
theorem dX2_init_1 : decode cX2_init 1 = .ok (.invokespecial 3, 3) := by decide +kernel
theorem dX2_init_4 : decode cX2_init 4 = .ok (.aload_n 0, 1) := by decide +kernel
theorem dX2_init_5 : decode cX2_init 5 = .ok (.sipush 250, 3) := by decide +kernel
theorem dX2_init_8 : decode cX2_init 8 = .ok (.newarray .int, 2) := by decide +kernel
theorem dX2_init_10 : decode cX2_init 10 = .ok (.putfield 9, 3) := by decide +kernel
theorem dX2_init_13 : decode cX2_init 13 = .ok (.return_, 1) := by decide +kernel
theorem dX2_append_0 : decode cX2_append 0 = .ok (.aload_n 0, 1) := by decide +kernel
theorem dX2_append_1 : decode cX2_append 1 = .ok (.getfield 15, 3) := by decide +kernel
theorem dX2_append_4 : decode cX2_append 4 = .ok (.sipush 250, 3) := by decide +kernel
theorem dX2_append_7 : decode cX2_append 7 = .ok (.if_icmp .ge 23, 3) := by decide +kernel
theorem dX2_append_10 : decode cX2_append 10 = .ok (.aload_n 0, 1) := by decide +kernel
theorem dX2_append_11 : decode cX2_append 11 = .ok (.getfield 9, 3) := by decide +kernel
theorem dX2_append_14 : decode cX2_append 14 = .ok (.aload_n 0, 1) := by decide +kernel
theorem dX2_append_15 : decode cX2_append 15 = .ok (.getfield 15, 3) := by decide +kernel
theorem dX2_append_18 : decode cX2_append 18 = .ok (.iload_n 1, 1) := by decide +kernel
theorem dX2_append_19 : decode cX2_append 19 = .ok (.iastore, 1) := by decide +kernel
theorem dX2_append_20 : decode cX2_append 20 = .ok (.aload_n 0, 1) := by decide +kernel
theorem dX2_append_21 : decode cX2_append 21 = .ok (.dup, 1) := by decide +kernel
theorem dX2_append_22 : decode cX2_append 22 = .ok (.getfield 15, 3) := by decide +kernel
theorem dX2_append_25 : decode cX2_append 25 = .ok (.iconst 1, 1) := by decide +kernel
theorem dX2_append_26 : decode cX2_append 26 = .ok (.iadd, 1) := by decide +kernel
theorem dX2_append_27 : decode cX2_append 27 = .ok (.putfield 15, 3) := by decide +kernel
theorem dX2_append_30 : decode cX2_append 30 = .ok (.return_, 1) := by decide +kernel
theorem dX2_readInto_0 : decode cX2_readInto 0 = .ok (.aload_n 0, 1) := by decide +kernel
theorem dX2_readInto_1 : decode cX2_readInto 1 = .ok (.iconst 0, 1) := by decide +kernel
theorem dX2_readInto_2 : decode cX2_readInto 2 = .ok (.putfield 19, 3) := by decide +kernel
theorem dX2_readInto_5 : decode cX2_readInto 5 = .ok (.aload_n 0, 1) := by decide +kernel
theorem dX2_readInto_6 : decode cX2_readInto 6 = .ok (.invokevirtual 22, 3) := by decide +kernel
theorem dX2_readInto_9 : decode cX2_readInto 9 = .ok (.iconst 1, 1) := by decide +kernel
theorem dX2_readInto_10 : decode cX2_readInto 10 = .ok (.istore_n 2, 1) := by decide +kernel
theorem dX2_readInto_11 : decode cX2_readInto 11 = .ok (.iload_n 2, 1) := by decide +kernel
theorem dX2_readInto_12 : decode cX2_readInto 12 = .ok (.sipush 250, 3) := by decide +kernel
theorem dX2_readInto_15 : decode cX2_readInto 15 = .ok (.if_icmp .gt 42, 3) := by decide +kernel
theorem dX2_readInto_18 : decode cX2_readInto 18 = .ok (.aload_n 0, 1) := by decide +kernel
theorem dX2_readInto_19 : decode cX2_readInto 19 = .ok (.aload_n 1, 1) := by decide +kernel
theorem dX2_readInto_20 : decode cX2_readInto 20 = .ok (.invokevirtual 25, 3) := by decide +kernel
theorem dX2_readInto_23 : decode cX2_readInto 23 = .ok (.ifCond .ne 5, 3) := by decide +kernel
theorem dX2_readInto_26 : decode cX2_readInto 26 = .ok (.iconst (-1), 1) := by decide +kernel
theorem dX2_readInto_27 : decode cX2_readInto 27 = .ok (.ireturn, 1) := by decide +kernel
theorem dX2_readInto_28 : decode cX2_readInto 28 = .ok (.aload_n 0, 1) := by decide +kernel
theorem dX2_readInto_29 : decode cX2_readInto 29 = .ok (.getfield 29, 3) := by decide +kernel
theorem dX2_readInto_32 : decode cX2_readInto 32 = .ok (.ifCond .ne 5, 3) := by decide +kernel
theorem dX2_readInto_35 : decode cX2_readInto 35 = .ok (.iload_n 2, 1) := by decide +kernel
theorem dX2_readInto_36 : decode cX2_readInto 36 = .ok (.ireturn, 1) := by decide +kernel
theorem dX2_readInto_37 : decode cX2_readInto 37 = .ok (.aload_n 0, 1) := by decide +kernel
theorem dX2_readInto_38 : decode cX2_readInto 38 = .ok (.getfield 29, 3) := by decide +kernel
theorem dX2_readInto_41 : decode cX2_readInto 41 = .ok (.iconst 3, 1) := by decide +kernel
theorem dX2_readInto_42 : decode cX2_readInto 42 = .ok (.if_icmp .eq 5, 3) := by decide +kernel
theorem dX2_readInto_45 : decode cX2_readInto 45 = .ok (.iconst (-1), 1) := by decide +kernel
theorem dX2_readInto_46 : decode cX2_readInto 46 = .ok (.ireturn, 1) := by decide +kernel
theorem dX2_readInto_47 : decode cX2_readInto 47 = .ok (.aload_n 0, 1) := by decide +kernel
theorem dX2_readInto_48 : decode cX2_readInto 48 = .ok (.invokevirtual 22, 3) := by decide +kernel
theorem dX2_readInto_51 : decode cX2_readInto 51 = .ok (.iinc 2 1, 3) := by decide +kernel
theorem dX2_readInto_54 : decode cX2_readInto 54 = .ok (.goto (-43), 3) := by decide +kernel
theorem dX2_readInto_57 : decode cX2_readInto 57 = .ok (.iconst (-1), 1) := by decide +kernel
theorem dX2_readInto_58 : decode cX2_readInto 58 = .ok (.ireturn, 1) := by decide +kernel
theorem dX2_readStatement_0 : decode cX2_readStatement 0 = .ok (.aload_n 0, 1) := by decide +kernel
theorem dX2_readStatement_1 : decode cX2_readStatement 1 = .ok (.ldc 32, 2) := by decide +kernel
theorem dX2_readStatement_3 : decode cX2_readStatement 3 = .ok (.invokevirtual 34, 3) := by decide +kernel
theorem dX2_readStatement_6 : decode cX2_readStatement 6 = .ok (.ifCond .eq 9, 3) := by decide +kernel
theorem dX2_readStatement_9 : decode cX2_readStatement 9 = .ok (.aload_n 0, 1) := by decide +kernel
theorem dX2_readStatement_10 : decode cX2_readStatement 10 = .ok (.aload_n 1, 1) := by decide +kernel
theorem dX2_readStatement_11 : decode cX2_readStatement 11 = .ok (.invokevirtual 38, 3) := by decide +kernel
theorem dX2_readStatement_14 : decode cX2_readStatement 14 = .ok (.ireturn, 1) := by decide +kernel
theorem dX2_readStatement_15 : decode cX2_readStatement 15 = .ok (.aload_n 0, 1) := by decide +kernel
theorem dX2_readStatement_16 : decode cX2_readStatement 16 = .ok (.ldc 41, 2) := by decide +kernel
theorem dX2_readStatement_18 : decode cX2_readStatement 18 = .ok (.invokevirtual 34, 3) := by decide +kernel
theorem dX2_readStatement_21 : decode cX2_readStatement 21 = .ok (.ifCond .eq 9, 3) := by decide +kernel
theorem dX2_readStatement_24 : decode cX2_readStatement 24 = .ok (.aload_n 0, 1) := by decide +kernel
theorem dX2_readStatement_25 : decode cX2_readStatement 25 = .ok (.aload_n 1, 1) := by decide +kernel
theorem dX2_readStatement_26 : decode cX2_readStatement 26 = .ok (.invokevirtual 43, 3) := by decide +kernel
theorem dX2_readStatement_29 : decode cX2_readStatement 29 = .ok (.ireturn, 1) := by decide +kernel
theorem dX2_readStatement_30 : decode cX2_readStatement 30 = .ok (.aload_n 0, 1) := by decide +kernel
theorem dX2_readStatement_31 : decode cX2_readStatement 31 = .ok (.ldc 46, 2) := by decide +kernel
theorem dX2_readStatement_33 : decode cX2_readStatement 33 = .ok (.invokevirtual 34, 3) := by decide +kernel
theorem dX2_readStatement_36 : decode cX2_readStatement 36 = .ok (.ifCond .eq 9, 3) := by decide +kernel
theorem dX2_readStatement_39 : decode cX2_readStatement 39 = .ok (.aload_n 0, 1) := by decide +kernel
theorem dX2_readStatement_40 : decode cX2_readStatement 40 = .ok (.aload_n 1, 1) := by decide +kernel
theorem dX2_readStatement_41 : decode cX2_readStatement 41 = .ok (.invokevirtual 48, 3) := by decide +kernel
theorem dX2_readStatement_44 : decode cX2_readStatement 44 = .ok (.ireturn, 1) := by decide +kernel
theorem dX2_readStatement_45 : decode cX2_readStatement 45 = .ok (.aload_n 0, 1) := by decide +kernel
theorem dX2_readStatement_46 : decode cX2_readStatement 46 = .ok (.ldc 51, 2) := by decide +kernel
theorem dX2_readStatement_48 : decode cX2_readStatement 48 = .ok (.invokevirtual 34, 3) := by decide +kernel
theorem dX2_readStatement_51 : decode cX2_readStatement 51 = .ok (.ifCond .eq 9, 3) := by decide +kernel
theorem dX2_readStatement_54 : decode cX2_readStatement 54 = .ok (.aload_n 0, 1) := by decide +kernel
theorem dX2_readStatement_55 : decode cX2_readStatement 55 = .ok (.aload_n 1, 1) := by decide +kernel
theorem dX2_readStatement_56 : decode cX2_readStatement 56 = .ok (.invokevirtual 53, 3) := by decide +kernel
theorem dX2_readStatement_59 : decode cX2_readStatement 59 = .ok (.ireturn, 1) := by decide +kernel
theorem dX2_readStatement_60 : decode cX2_readStatement 60 = .ok (.aload_n 0, 1) := by decide +kernel
theorem dX2_readStatement_61 : decode cX2_readStatement 61 = .ok (.ldc 56, 2) := by decide +kernel
theorem dX2_readStatement_63 : decode cX2_readStatement 63 = .ok (.invokevirtual 34, 3) := by decide +kernel
theorem dX2_readStatement_66 : decode cX2_readStatement 66 = .ok (.ifCond .eq 9, 3) := by decide +kernel
theorem dX2_readStatement_69 : decode cX2_readStatement 69 = .ok (.aload_n 0, 1) := by decide +kernel
theorem dX2_readStatement_70 : decode cX2_readStatement 70 = .ok (.aload_n 1, 1) := by decide +kernel
theorem dX2_readStatement_71 : decode cX2_readStatement 71 = .ok (.invokevirtual 58, 3) := by decide +kernel
theorem dX2_readStatement_74 : decode cX2_readStatement 74 = .ok (.ireturn, 1) := by decide +kernel
theorem dX2_readStatement_75 : decode cX2_readStatement 75 = .ok (.aload_n 0, 1) := by decide +kernel
theorem dX2_readStatement_76 : decode cX2_readStatement 76 = .ok (.ldc 61, 2) := by decide +kernel
theorem dX2_readStatement_78 : decode cX2_readStatement 78 = .ok (.invokevirtual 34, 3) := by decide +kernel
theorem dX2_readStatement_81 : decode cX2_readStatement 81 = .ok (.ifCond .eq 15, 3) := by decide +kernel
theorem dX2_readStatement_84 : decode cX2_readStatement 84 = .ok (.aload_n 0, 1) := by decide +kernel
theorem dX2_readStatement_85 : decode cX2_readStatement 85 = .ok (.aload_n 1, 1) := by decide +kernel
theorem dX2_readStatement_86 : decode cX2_readStatement 86 = .ok (.invokevirtual 63, 3) := by decide +kernel
theorem dX2_readStatement_89 : decode cX2_readStatement 89 = .ok (.ifCond .eq 7, 3) := by decide +kernel
theorem dX2_readStatement_92 : decode cX2_readStatement 92 = .ok (.iconst 1, 1) := by decide +kernel
theorem dX2_readStatement_93 : decode cX2_readStatement 93 = .ok (.goto 4, 3) := by decide +kernel
theorem dX2_readStatement_96 : decode cX2_readStatement 96 = .ok (.iconst 0, 1) := by decide +kernel
theorem dX2_readStatement_97 : decode cX2_readStatement 97 = .ok (.ireturn, 1) := by decide +kernel
theorem dX2_readTerm_0 : decode cX2_readTerm 0 = .ok (.aload_n 0, 1) := by decide +kernel
theorem dX2_readTerm_1 : decode cX2_readTerm 1 = .ok (.invokevirtual 22, 3) := by decide +kernel
theorem dX2_readTerm_4 : decode cX2_readTerm 4 = .ok (.aload_n 0, 1) := by decide +kernel
theorem dX2_readTerm_5 : decode cX2_readTerm 5 = .ok (.iconst 1, 1) := by decide +kernel
theorem dX2_readTerm_6 : decode cX2_readTerm 6 = .ok (.bipush 9, 2) := by decide +kernel
theorem dX2_readTerm_8 : decode cX2_readTerm 8 = .ok (.invokevirtual 66, 3) := by decide +kernel
theorem dX2_readTerm_11 : decode cX2_readTerm 11 = .ok (.istore_n 2, 1) := by decide +kernel
theorem dX2_readTerm_12 : decode cX2_readTerm 12 = .ok (.iload_n 2, 1) := by decide +kernel
theorem dX2_readTerm_13 : decode cX2_readTerm 13 = .ok (.iconst (-1), 1) := by decide +kernel
theorem dX2_readTerm_14 : decode cX2_readTerm 14 = .ok (.if_icmp .ne 5, 3) := by decide +kernel
theorem dX2_readTerm_17 : decode cX2_readTerm 17 = .ok (.iconst 0, 1) := by decide +kernel
theorem dX2_readTerm_18 : decode cX2_readTerm 18 = .ok (.ireturn, 1) := by decide +kernel
theorem dX2_readTerm_19 : decode cX2_readTerm 19 = .ok (.aload_n 1, 1) := by decide +kernel
theorem dX2_readTerm_20 : decode cX2_readTerm 20 = .ok (.iload_n 2, 1) := by decide +kernel
theorem dX2_readTerm_21 : decode cX2_readTerm 21 = .ok (.invokevirtual 70, 3) := by decide +kernel
theorem dX2_readTerm_24 : decode cX2_readTerm 24 = .ok (.iconst 1, 1) := by decide +kernel
theorem dX2_readTerm_25 : decode cX2_readTerm 25 = .ok (.ireturn, 1) := by decide +kernel
theorem dX2_readNever_0 : decode cX2_readNever 0 = .ok (.aload_n 0, 1) := by decide +kernel
theorem dX2_readNever_1 : decode cX2_readNever 1 = .ok (.invokevirtual 22, 3) := by decide +kernel
theorem dX2_readNever_4 : decode cX2_readNever 4 = .ok (.aload_n 0, 1) := by decide +kernel
theorem dX2_readNever_5 : decode cX2_readNever 5 = .ok (.iconst 0, 1) := by decide +kernel
theorem dX2_readNever_6 : decode cX2_readNever 6 = .ok (.aload_n 1, 1) := by decide +kernel
theorem dX2_readNever_7 : decode cX2_readNever 7 = .ok (.getfield 76, 3) := by decide +kernel
theorem dX2_readNever_10 : decode cX2_readNever 10 = .ok (.iconst 1, 1) := by decide +kernel
theorem dX2_readNever_11 : decode cX2_readNever 11 = .ok (.isub, 1) := by decide +kernel
theorem dX2_readNever_12 : decode cX2_readNever 12 = .ok (.invokevirtual 66, 3) := by decide +kernel
theorem dX2_readNever_15 : decode cX2_readNever 15 = .ok (.istore_n 2, 1) := by decide +kernel
theorem dX2_readNever_16 : decode cX2_readNever 16 = .ok (.iload_n 2, 1) := by decide +kernel
theorem dX2_readNever_17 : decode cX2_readNever 17 = .ok (.iconst (-1), 1) := by decide +kernel
theorem dX2_readNever_18 : decode cX2_readNever 18 = .ok (.if_icmp .ne 5, 3) := by decide +kernel
theorem dX2_readNever_21 : decode cX2_readNever 21 = .ok (.iconst 0, 1) := by decide +kernel
theorem dX2_readNever_22 : decode cX2_readNever 22 = .ok (.ireturn, 1) := by decide +kernel
theorem dX2_readNever_23 : decode cX2_readNever 23 = .ok (.aload_n 1, 1) := by decide +kernel
theorem dX2_readNever_24 : decode cX2_readNever 24 = .ok (.aload_n 1, 1) := by decide +kernel
theorem dX2_readNever_25 : decode cX2_readNever 25 = .ok (.getfield 79, 3) := by decide +kernel
theorem dX2_readNever_28 : decode cX2_readNever 28 = .ok (.iconst 1, 1) := by decide +kernel
theorem dX2_readNever_29 : decode cX2_readNever 29 = .ok (.iload_n 2, 1) := by decide +kernel
theorem dX2_readNever_30 : decode cX2_readNever 30 = .ok (.ishl, 1) := by decide +kernel
theorem dX2_readNever_31 : decode cX2_readNever 31 = .ok (.iconst (-1), 1) := by decide +kernel
theorem dX2_readNever_32 : decode cX2_readNever 32 = .ok (.ixor, 1) := by decide +kernel
theorem dX2_readNever_33 : decode cX2_readNever 33 = .ok (.iand, 1) := by decide +kernel
theorem dX2_readNever_34 : decode cX2_readNever 34 = .ok (.putfield 79, 3) := by decide +kernel
theorem dX2_readNever_37 : decode cX2_readNever 37 = .ok (.iconst 1, 1) := by decide +kernel
theorem dX2_readNever_38 : decode cX2_readNever 38 = .ok (.ireturn, 1) := by decide +kernel
theorem dX2_readWeight_0 : decode cX2_readWeight 0 = .ok (.aload_n 0, 1) := by decide +kernel
theorem dX2_readWeight_1 : decode cX2_readWeight 1 = .ok (.invokevirtual 22, 3) := by decide +kernel
theorem dX2_readWeight_4 : decode cX2_readWeight 4 = .ok (.aload_n 0, 1) := by decide +kernel
theorem dX2_readWeight_5 : decode cX2_readWeight 5 = .ok (.iconst 0, 1) := by decide +kernel
theorem dX2_readWeight_6 : decode cX2_readWeight 6 = .ok (.aload_n 1, 1) := by decide +kernel
theorem dX2_readWeight_7 : decode cX2_readWeight 7 = .ok (.getfield 76, 3) := by decide +kernel
theorem dX2_readWeight_10 : decode cX2_readWeight 10 = .ok (.iconst 1, 1) := by decide +kernel
theorem dX2_readWeight_11 : decode cX2_readWeight 11 = .ok (.isub, 1) := by decide +kernel
theorem dX2_readWeight_12 : decode cX2_readWeight 12 = .ok (.invokevirtual 66, 3) := by decide +kernel
theorem dX2_readWeight_15 : decode cX2_readWeight 15 = .ok (.istore_n 2, 1) := by decide +kernel
theorem dX2_readWeight_16 : decode cX2_readWeight 16 = .ok (.iload_n 2, 1) := by decide +kernel
theorem dX2_readWeight_17 : decode cX2_readWeight 17 = .ok (.iconst (-1), 1) := by decide +kernel
theorem dX2_readWeight_18 : decode cX2_readWeight 18 = .ok (.if_icmp .ne 5, 3) := by decide +kernel
theorem dX2_readWeight_21 : decode cX2_readWeight 21 = .ok (.iconst 0, 1) := by decide +kernel
theorem dX2_readWeight_22 : decode cX2_readWeight 22 = .ok (.ireturn, 1) := by decide +kernel
theorem dX2_readWeight_23 : decode cX2_readWeight 23 = .ok (.aload_n 0, 1) := by decide +kernel
theorem dX2_readWeight_24 : decode cX2_readWeight 24 = .ok (.iconst 0, 1) := by decide +kernel
theorem dX2_readWeight_25 : decode cX2_readWeight 25 = .ok (.bipush 9, 2) := by decide +kernel
theorem dX2_readWeight_27 : decode cX2_readWeight 27 = .ok (.invokevirtual 66, 3) := by decide +kernel
theorem dX2_readWeight_30 : decode cX2_readWeight 30 = .ok (.istore_n 3, 1) := by decide +kernel
theorem dX2_readWeight_31 : decode cX2_readWeight 31 = .ok (.iload_n 3, 1) := by decide +kernel
theorem dX2_readWeight_32 : decode cX2_readWeight 32 = .ok (.iconst (-1), 1) := by decide +kernel
theorem dX2_readWeight_33 : decode cX2_readWeight 33 = .ok (.if_icmp .ne 5, 3) := by decide +kernel
theorem dX2_readWeight_36 : decode cX2_readWeight 36 = .ok (.iconst 0, 1) := by decide +kernel
theorem dX2_readWeight_37 : decode cX2_readWeight 37 = .ok (.ireturn, 1) := by decide +kernel
theorem dX2_readWeight_38 : decode cX2_readWeight 38 = .ok (.aload_n 1, 1) := by decide +kernel
theorem dX2_readWeight_39 : decode cX2_readWeight 39 = .ok (.getfield 82, 3) := by decide +kernel
theorem dX2_readWeight_42 : decode cX2_readWeight 42 = .ok (.iload_n 2, 1) := by decide +kernel
theorem dX2_readWeight_43 : decode cX2_readWeight 43 = .ok (.iload_n 3, 1) := by decide +kernel
theorem dX2_readWeight_44 : decode cX2_readWeight 44 = .ok (.iastore, 1) := by decide +kernel
theorem dX2_readWeight_45 : decode cX2_readWeight 45 = .ok (.iconst 1, 1) := by decide +kernel
theorem dX2_readWeight_46 : decode cX2_readWeight 46 = .ok (.ireturn, 1) := by decide +kernel
theorem dX2_readSaid_0 : decode cX2_readSaid 0 = .ok (.aload_n 0, 1) := by decide +kernel
theorem dX2_readSaid_1 : decode cX2_readSaid 1 = .ok (.invokevirtual 22, 3) := by decide +kernel
theorem dX2_readSaid_4 : decode cX2_readSaid 4 = .ok (.aload_n 0, 1) := by decide +kernel
theorem dX2_readSaid_5 : decode cX2_readSaid 5 = .ok (.iconst 0, 1) := by decide +kernel
theorem dX2_readSaid_6 : decode cX2_readSaid 6 = .ok (.bipush 9, 2) := by decide +kernel
theorem dX2_readSaid_8 : decode cX2_readSaid 8 = .ok (.invokevirtual 66, 3) := by decide +kernel
theorem dX2_readSaid_11 : decode cX2_readSaid 11 = .ok (.istore_n 2, 1) := by decide +kernel
theorem dX2_readSaid_12 : decode cX2_readSaid 12 = .ok (.iload_n 2, 1) := by decide +kernel
theorem dX2_readSaid_13 : decode cX2_readSaid 13 = .ok (.iconst (-1), 1) := by decide +kernel
theorem dX2_readSaid_14 : decode cX2_readSaid 14 = .ok (.if_icmp .ne 5, 3) := by decide +kernel
theorem dX2_readSaid_17 : decode cX2_readSaid 17 = .ok (.iconst 0, 1) := by decide +kernel
theorem dX2_readSaid_18 : decode cX2_readSaid 18 = .ok (.ireturn, 1) := by decide +kernel
theorem dX2_readSaid_19 : decode cX2_readSaid 19 = .ok (.aload_n 1, 1) := by decide +kernel
theorem dX2_readSaid_20 : decode cX2_readSaid 20 = .ok (.iload_n 2, 1) := by decide +kernel
theorem dX2_readSaid_21 : decode cX2_readSaid 21 = .ok (.putfield 85, 3) := by decide +kernel
theorem dX2_readSaid_24 : decode cX2_readSaid 24 = .ok (.iconst 1, 1) := by decide +kernel
theorem dX2_readSaid_25 : decode cX2_readSaid 25 = .ok (.ireturn, 1) := by decide +kernel
theorem dX2_readPerson_0 : decode cX2_readPerson 0 = .ok (.aload_n 1, 1) := by decide +kernel
theorem dX2_readPerson_1 : decode cX2_readPerson 1 = .ok (.getfield 87, 3) := by decide +kernel
theorem dX2_readPerson_4 : decode cX2_readPerson 4 = .ok (.bipush 6, 2) := by decide +kernel
theorem dX2_readPerson_6 : decode cX2_readPerson 6 = .ok (.if_icmp .lt 5, 3) := by decide +kernel
theorem dX2_readPerson_9 : decode cX2_readPerson 9 = .ok (.iconst 0, 1) := by decide +kernel
theorem dX2_readPerson_10 : decode cX2_readPerson 10 = .ok (.ireturn, 1) := by decide +kernel
theorem dX2_readPerson_11 : decode cX2_readPerson 11 = .ok (.aload_n 0, 1) := by decide +kernel
theorem dX2_readPerson_12 : decode cX2_readPerson 12 = .ok (.invokevirtual 22, 3) := by decide +kernel
theorem dX2_readPerson_15 : decode cX2_readPerson 15 = .ok (.aload_n 0, 1) := by decide +kernel
theorem dX2_readPerson_16 : decode cX2_readPerson 16 = .ok (.iconst 0, 1) := by decide +kernel
theorem dX2_readPerson_17 : decode cX2_readPerson 17 = .ok (.iconst 5, 1) := by decide +kernel
theorem dX2_readPerson_18 : decode cX2_readPerson 18 = .ok (.invokevirtual 66, 3) := by decide +kernel
theorem dX2_readPerson_21 : decode cX2_readPerson 21 = .ok (.istore_n 2, 1) := by decide +kernel
theorem dX2_readPerson_22 : decode cX2_readPerson 22 = .ok (.iload_n 2, 1) := by decide +kernel
theorem dX2_readPerson_23 : decode cX2_readPerson 23 = .ok (.iconst (-1), 1) := by decide +kernel
theorem dX2_readPerson_24 : decode cX2_readPerson 24 = .ok (.if_icmp .ne 5, 3) := by decide +kernel
theorem dX2_readPerson_27 : decode cX2_readPerson 27 = .ok (.iconst 0, 1) := by decide +kernel
theorem dX2_readPerson_28 : decode cX2_readPerson 28 = .ok (.ireturn, 1) := by decide +kernel
theorem dX2_readPerson_29 : decode cX2_readPerson 29 = .ok (.aload_n 0, 1) := by decide +kernel
theorem dX2_readPerson_30 : decode cX2_readPerson 30 = .ok (.iconst 0, 1) := by decide +kernel
theorem dX2_readPerson_31 : decode cX2_readPerson 31 = .ok (.bipush 9, 2) := by decide +kernel
theorem dX2_readPerson_33 : decode cX2_readPerson 33 = .ok (.invokevirtual 66, 3) := by decide +kernel
theorem dX2_readPerson_36 : decode cX2_readPerson 36 = .ok (.istore_n 3, 1) := by decide +kernel
theorem dX2_readPerson_37 : decode cX2_readPerson 37 = .ok (.iload_n 3, 1) := by decide +kernel
theorem dX2_readPerson_38 : decode cX2_readPerson 38 = .ok (.iconst (-1), 1) := by decide +kernel
theorem dX2_readPerson_39 : decode cX2_readPerson 39 = .ok (.if_icmp .ne 5, 3) := by decide +kernel
theorem dX2_readPerson_42 : decode cX2_readPerson 42 = .ok (.iconst 0, 1) := by decide +kernel
theorem dX2_readPerson_43 : decode cX2_readPerson 43 = .ok (.ireturn, 1) := by decide +kernel
theorem dX2_readPerson_44 : decode cX2_readPerson 44 = .ok (.aload_n 1, 1) := by decide +kernel
theorem dX2_readPerson_45 : decode cX2_readPerson 45 = .ok (.iload_n 2, 1) := by decide +kernel
theorem dX2_readPerson_46 : decode cX2_readPerson 46 = .ok (.iload_n 3, 1) := by decide +kernel
theorem dX2_readPerson_47 : decode cX2_readPerson 47 = .ok (.invokevirtual 90, 3) := by decide +kernel
theorem dX2_readPerson_50 : decode cX2_readPerson 50 = .ok (.iconst 1, 1) := by decide +kernel
theorem dX2_readPerson_51 : decode cX2_readPerson 51 = .ok (.ireturn, 1) := by decide +kernel
theorem dX2_readHint_0 : decode cX2_readHint 0 = .ok (.aload_n 0, 1) := by decide +kernel
theorem dX2_readHint_1 : decode cX2_readHint 1 = .ok (.invokevirtual 22, 3) := by decide +kernel
theorem dX2_readHint_4 : decode cX2_readHint 4 = .ok (.iconst 0, 1) := by decide +kernel
theorem dX2_readHint_5 : decode cX2_readHint 5 = .ok (.istore_n 2, 1) := by decide +kernel
theorem dX2_readHint_6 : decode cX2_readHint 6 = .ok (.iconst 0, 1) := by decide +kernel
theorem dX2_readHint_7 : decode cX2_readHint 7 = .ok (.istore_n 3, 1) := by decide +kernel
theorem dX2_readHint_8 : decode cX2_readHint 8 = .ok (.iload_n 3, 1) := by decide +kernel
theorem dX2_readHint_9 : decode cX2_readHint 9 = .ok (.aload_n 1, 1) := by decide +kernel
theorem dX2_readHint_10 : decode cX2_readHint 10 = .ok (.getfield 76, 3) := by decide +kernel
theorem dX2_readHint_13 : decode cX2_readHint 13 = .ok (.if_icmp .gt 62, 3) := by decide +kernel
theorem dX2_readHint_16 : decode cX2_readHint 16 = .ok (.iload_n 3, 1) := by decide +kernel
theorem dX2_readHint_17 : decode cX2_readHint 17 = .ok (.ifCond .eq 11, 3) := by decide +kernel
theorem dX2_readHint_20 : decode cX2_readHint 20 = .ok (.aload_n 0, 1) := by decide +kernel
theorem dX2_readHint_21 : decode cX2_readHint 21 = .ok (.getfield 29, 3) := by decide +kernel
theorem dX2_readHint_24 : decode cX2_readHint 24 = .ok (.iconst 2, 1) := by decide +kernel
theorem dX2_readHint_25 : decode cX2_readHint 25 = .ok (.if_icmp .ne 50, 3) := by decide +kernel
theorem dX2_readHint_28 : decode cX2_readHint 28 = .ok (.aload_n 0, 1) := by decide +kernel
theorem dX2_readHint_29 : decode cX2_readHint 29 = .ok (.iconst 0, 1) := by decide +kernel
theorem dX2_readHint_30 : decode cX2_readHint 30 = .ok (.aload_n 1, 1) := by decide +kernel
theorem dX2_readHint_31 : decode cX2_readHint 31 = .ok (.getfield 76, 3) := by decide +kernel
theorem dX2_readHint_34 : decode cX2_readHint 34 = .ok (.iconst 1, 1) := by decide +kernel
theorem dX2_readHint_35 : decode cX2_readHint 35 = .ok (.isub, 1) := by decide +kernel
theorem dX2_readHint_36 : decode cX2_readHint 36 = .ok (.invokevirtual 94, 3) := by decide +kernel
theorem dX2_readHint_39 : decode cX2_readHint 39 = .ok (.istore 4, 2) := by decide +kernel
theorem dX2_readHint_41 : decode cX2_readHint 41 = .ok (.iload 4, 2) := by decide +kernel
theorem dX2_readHint_43 : decode cX2_readHint 43 = .ok (.iconst (-1), 1) := by decide +kernel
theorem dX2_readHint_44 : decode cX2_readHint 44 = .ok (.if_icmp .eq 12, 3) := by decide +kernel
theorem dX2_readHint_47 : decode cX2_readHint 47 = .ok (.iload_n 2, 1) := by decide +kernel
theorem dX2_readHint_48 : decode cX2_readHint 48 = .ok (.iload 4, 2) := by decide +kernel
theorem dX2_readHint_50 : decode cX2_readHint 50 = .ok (.invokestatic 97, 3) := by decide +kernel
theorem dX2_readHint_53 : decode cX2_readHint 53 = .ok (.ifCond .eq 5, 3) := by decide +kernel
theorem dX2_readHint_56 : decode cX2_readHint 56 = .ok (.iconst 0, 1) := by decide +kernel
theorem dX2_readHint_57 : decode cX2_readHint 57 = .ok (.ireturn, 1) := by decide +kernel
theorem dX2_readHint_58 : decode cX2_readHint 58 = .ok (.iload_n 2, 1) := by decide +kernel
theorem dX2_readHint_59 : decode cX2_readHint 59 = .ok (.iconst 1, 1) := by decide +kernel
theorem dX2_readHint_60 : decode cX2_readHint 60 = .ok (.iload 4, 2) := by decide +kernel
theorem dX2_readHint_62 : decode cX2_readHint 62 = .ok (.ishl, 1) := by decide +kernel
theorem dX2_readHint_63 : decode cX2_readHint 63 = .ok (.ior, 1) := by decide +kernel
theorem dX2_readHint_64 : decode cX2_readHint 64 = .ok (.istore_n 2, 1) := by decide +kernel
theorem dX2_readHint_65 : decode cX2_readHint 65 = .ok (.aload_n 0, 1) := by decide +kernel
theorem dX2_readHint_66 : decode cX2_readHint 66 = .ok (.invokevirtual 22, 3) := by decide +kernel
theorem dX2_readHint_69 : decode cX2_readHint 69 = .ok (.iinc 3 1, 3) := by decide +kernel
theorem dX2_readHint_72 : decode cX2_readHint 72 = .ok (.goto (-64), 3) := by decide +kernel
theorem dX2_readHint_75 : decode cX2_readHint 75 = .ok (.aload_n 1, 1) := by decide +kernel
theorem dX2_readHint_76 : decode cX2_readHint 76 = .ok (.aload_n 1, 1) := by decide +kernel
theorem dX2_readHint_77 : decode cX2_readHint 77 = .ok (.getfield 79, 3) := by decide +kernel
theorem dX2_readHint_80 : decode cX2_readHint 80 = .ok (.iload_n 2, 1) := by decide +kernel
theorem dX2_readHint_81 : decode cX2_readHint 81 = .ok (.iand, 1) := by decide +kernel
theorem dX2_readHint_82 : decode cX2_readHint 82 = .ok (.putfield 79, 3) := by decide +kernel
theorem dX2_readHint_85 : decode cX2_readHint 85 = .ok (.iconst 1, 1) := by decide +kernel
theorem dX2_readHint_86 : decode cX2_readHint 86 = .ok (.ireturn, 1) := by decide +kernel
theorem dX2_takeNumber_0 : decode cX2_takeNumber 0 = .ok (.aload_n 0, 1) := by decide +kernel
theorem dX2_takeNumber_1 : decode cX2_takeNumber 1 = .ok (.iload_n 1, 1) := by decide +kernel
theorem dX2_takeNumber_2 : decode cX2_takeNumber 2 = .ok (.iload_n 2, 1) := by decide +kernel
theorem dX2_takeNumber_3 : decode cX2_takeNumber 3 = .ok (.invokevirtual 94, 3) := by decide +kernel
theorem dX2_takeNumber_6 : decode cX2_takeNumber 6 = .ok (.istore_n 3, 1) := by decide +kernel
theorem dX2_takeNumber_7 : decode cX2_takeNumber 7 = .ok (.iload_n 3, 1) := by decide +kernel
theorem dX2_takeNumber_8 : decode cX2_takeNumber 8 = .ok (.iconst (-1), 1) := by decide +kernel
theorem dX2_takeNumber_9 : decode cX2_takeNumber 9 = .ok (.if_icmp .eq 7, 3) := by decide +kernel
theorem dX2_takeNumber_12 : decode cX2_takeNumber 12 = .ok (.aload_n 0, 1) := by decide +kernel
theorem dX2_takeNumber_13 : decode cX2_takeNumber 13 = .ok (.invokevirtual 22, 3) := by decide +kernel
theorem dX2_takeNumber_16 : decode cX2_takeNumber 16 = .ok (.iload_n 3, 1) := by decide +kernel
theorem dX2_takeNumber_17 : decode cX2_takeNumber 17 = .ok (.ireturn, 1) := by decide +kernel
theorem dX2_numberAtHand_0 : decode cX2_numberAtHand 0 = .ok (.aload_n 0, 1) := by decide +kernel
theorem dX2_numberAtHand_1 : decode cX2_numberAtHand 1 = .ok (.getfield 29, 3) := by decide +kernel
theorem dX2_numberAtHand_4 : decode cX2_numberAtHand 4 = .ok (.iconst 2, 1) := by decide +kernel
theorem dX2_numberAtHand_5 : decode cX2_numberAtHand 5 = .ok (.if_icmp .ne 16, 3) := by decide +kernel
theorem dX2_numberAtHand_8 : decode cX2_numberAtHand 8 = .ok (.aload_n 0, 1) := by decide +kernel
theorem dX2_numberAtHand_9 : decode cX2_numberAtHand 9 = .ok (.getfield 19, 3) := by decide +kernel
theorem dX2_numberAtHand_12 : decode cX2_numberAtHand 12 = .ok (.aload_n 0, 1) := by decide +kernel
theorem dX2_numberAtHand_13 : decode cX2_numberAtHand 13 = .ok (.getfield 101, 3) := by decide +kernel
theorem dX2_numberAtHand_16 : decode cX2_numberAtHand 16 = .ok (.isub, 1) := by decide +kernel
theorem dX2_numberAtHand_17 : decode cX2_numberAtHand 17 = .ok (.iconst 2, 1) := by decide +kernel
theorem dX2_numberAtHand_18 : decode cX2_numberAtHand 18 = .ok (.if_icmp .le 5, 3) := by decide +kernel
theorem dX2_numberAtHand_21 : decode cX2_numberAtHand 21 = .ok (.iconst (-1), 1) := by decide +kernel
theorem dX2_numberAtHand_22 : decode cX2_numberAtHand 22 = .ok (.ireturn, 1) := by decide +kernel
theorem dX2_numberAtHand_23 : decode cX2_numberAtHand 23 = .ok (.iconst 0, 1) := by decide +kernel
theorem dX2_numberAtHand_24 : decode cX2_numberAtHand 24 = .ok (.istore_n 3, 1) := by decide +kernel
theorem dX2_numberAtHand_25 : decode cX2_numberAtHand 25 = .ok (.aload_n 0, 1) := by decide +kernel
theorem dX2_numberAtHand_26 : decode cX2_numberAtHand 26 = .ok (.getfield 101, 3) := by decide +kernel
theorem dX2_numberAtHand_29 : decode cX2_numberAtHand 29 = .ok (.istore 4, 2) := by decide +kernel
theorem dX2_numberAtHand_31 : decode cX2_numberAtHand 31 = .ok (.iload 4, 2) := by decide +kernel
theorem dX2_numberAtHand_33 : decode cX2_numberAtHand 33 = .ok (.aload_n 0, 1) := by decide +kernel
theorem dX2_numberAtHand_34 : decode cX2_numberAtHand 34 = .ok (.getfield 19, 3) := by decide +kernel
theorem dX2_numberAtHand_37 : decode cX2_numberAtHand 37 = .ok (.if_icmp .ge 25, 3) := by decide +kernel
theorem dX2_numberAtHand_40 : decode cX2_numberAtHand 40 = .ok (.bipush 10, 2) := by decide +kernel
theorem dX2_numberAtHand_42 : decode cX2_numberAtHand 42 = .ok (.iload_n 3, 1) := by decide +kernel
theorem dX2_numberAtHand_43 : decode cX2_numberAtHand 43 = .ok (.imul, 1) := by decide +kernel
theorem dX2_numberAtHand_44 : decode cX2_numberAtHand 44 = .ok (.aload_n 0, 1) := by decide +kernel
theorem dX2_numberAtHand_45 : decode cX2_numberAtHand 45 = .ok (.getfield 9, 3) := by decide +kernel
theorem dX2_numberAtHand_48 : decode cX2_numberAtHand 48 = .ok (.iload 4, 2) := by decide +kernel
theorem dX2_numberAtHand_50 : decode cX2_numberAtHand 50 = .ok (.iaload, 1) := by decide +kernel
theorem dX2_numberAtHand_51 : decode cX2_numberAtHand 51 = .ok (.iadd, 1) := by decide +kernel
theorem dX2_numberAtHand_52 : decode cX2_numberAtHand 52 = .ok (.bipush 48, 2) := by decide +kernel
theorem dX2_numberAtHand_54 : decode cX2_numberAtHand 54 = .ok (.isub, 1) := by decide +kernel
theorem dX2_numberAtHand_55 : decode cX2_numberAtHand 55 = .ok (.istore_n 3, 1) := by decide +kernel
theorem dX2_numberAtHand_56 : decode cX2_numberAtHand 56 = .ok (.iinc 4 1, 3) := by decide +kernel
theorem dX2_numberAtHand_59 : decode cX2_numberAtHand 59 = .ok (.goto (-28), 3) := by decide +kernel
theorem dX2_numberAtHand_62 : decode cX2_numberAtHand 62 = .ok (.iload_n 3, 1) := by decide +kernel
theorem dX2_numberAtHand_63 : decode cX2_numberAtHand 63 = .ok (.iload_n 1, 1) := by decide +kernel
theorem dX2_numberAtHand_64 : decode cX2_numberAtHand 64 = .ok (.iload_n 2, 1) := by decide +kernel
theorem dX2_numberAtHand_65 : decode cX2_numberAtHand 65 = .ok (.invokestatic 104, 3) := by decide +kernel
theorem dX2_numberAtHand_68 : decode cX2_numberAtHand 68 = .ok (.ifCond .eq 7, 3) := by decide +kernel
theorem dX2_numberAtHand_71 : decode cX2_numberAtHand 71 = .ok (.iload_n 3, 1) := by decide +kernel
theorem dX2_numberAtHand_72 : decode cX2_numberAtHand 72 = .ok (.goto 4, 3) := by decide +kernel
theorem dX2_numberAtHand_75 : decode cX2_numberAtHand 75 = .ok (.iconst (-1), 1) := by decide +kernel
theorem dX2_numberAtHand_76 : decode cX2_numberAtHand 76 = .ok (.ireturn, 1) := by decide +kernel
theorem dX2_isWord_0 : decode cX2_isWord 0 = .ok (.aload_n 0, 1) := by decide +kernel
theorem dX2_isWord_1 : decode cX2_isWord 1 = .ok (.getfield 29, 3) := by decide +kernel
theorem dX2_isWord_4 : decode cX2_isWord 4 = .ok (.iconst 1, 1) := by decide +kernel
theorem dX2_isWord_5 : decode cX2_isWord 5 = .ok (.if_icmp .ne 19, 3) := by decide +kernel
theorem dX2_isWord_8 : decode cX2_isWord 8 = .ok (.aload_n 0, 1) := by decide +kernel
theorem dX2_isWord_9 : decode cX2_isWord 9 = .ok (.getfield 19, 3) := by decide +kernel
theorem dX2_isWord_12 : decode cX2_isWord 12 = .ok (.aload_n 0, 1) := by decide +kernel
theorem dX2_isWord_13 : decode cX2_isWord 13 = .ok (.getfield 101, 3) := by decide +kernel
theorem dX2_isWord_16 : decode cX2_isWord 16 = .ok (.isub, 1) := by decide +kernel
theorem dX2_isWord_17 : decode cX2_isWord 17 = .ok (.aload_n 1, 1) := by decide +kernel
theorem dX2_isWord_18 : decode cX2_isWord 18 = .ok (.invokevirtual 108, 3) := by decide +kernel
theorem dX2_isWord_21 : decode cX2_isWord 21 = .ok (.if_icmp .eq 5, 3) := by decide +kernel
theorem dX2_isWord_24 : decode cX2_isWord 24 = .ok (.iconst 0, 1) := by decide +kernel
theorem dX2_isWord_25 : decode cX2_isWord 25 = .ok (.ireturn, 1) := by decide +kernel
theorem dX2_isWord_26 : decode cX2_isWord 26 = .ok (.iconst 0, 1) := by decide +kernel
theorem dX2_isWord_27 : decode cX2_isWord 27 = .ok (.istore_n 2, 1) := by decide +kernel
theorem dX2_isWord_28 : decode cX2_isWord 28 = .ok (.iload_n 2, 1) := by decide +kernel
theorem dX2_isWord_29 : decode cX2_isWord 29 = .ok (.aload_n 1, 1) := by decide +kernel
theorem dX2_isWord_30 : decode cX2_isWord 30 = .ok (.invokevirtual 108, 3) := by decide +kernel
theorem dX2_isWord_33 : decode cX2_isWord 33 = .ok (.if_icmp .ge 30, 3) := by decide +kernel
theorem dX2_isWord_36 : decode cX2_isWord 36 = .ok (.aload_n 0, 1) := by decide +kernel
theorem dX2_isWord_37 : decode cX2_isWord 37 = .ok (.getfield 9, 3) := by decide +kernel
theorem dX2_isWord_40 : decode cX2_isWord 40 = .ok (.aload_n 0, 1) := by decide +kernel
theorem dX2_isWord_41 : decode cX2_isWord 41 = .ok (.getfield 101, 3) := by decide +kernel
theorem dX2_isWord_44 : decode cX2_isWord 44 = .ok (.iload_n 2, 1) := by decide +kernel
theorem dX2_isWord_45 : decode cX2_isWord 45 = .ok (.iadd, 1) := by decide +kernel
theorem dX2_isWord_46 : decode cX2_isWord 46 = .ok (.iaload, 1) := by decide +kernel
theorem dX2_isWord_47 : decode cX2_isWord 47 = .ok (.aload_n 1, 1) := by decide +kernel
theorem dX2_isWord_48 : decode cX2_isWord 48 = .ok (.iload_n 2, 1) := by decide +kernel
theorem dX2_isWord_49 : decode cX2_isWord 49 = .ok (.invokevirtual 114, 3) := by decide +kernel
theorem dX2_isWord_52 : decode cX2_isWord 52 = .ok (.if_icmp .eq 5, 3) := by decide +kernel
theorem dX2_isWord_55 : decode cX2_isWord 55 = .ok (.iconst 0, 1) := by decide +kernel
theorem dX2_isWord_56 : decode cX2_isWord 56 = .ok (.ireturn, 1) := by decide +kernel
theorem dX2_isWord_57 : decode cX2_isWord 57 = .ok (.iinc 2 1, 3) := by decide +kernel
theorem dX2_isWord_60 : decode cX2_isWord 60 = .ok (.goto (-32), 3) := by decide +kernel
theorem dX2_isWord_63 : decode cX2_isWord 63 = .ok (.iconst 1, 1) := by decide +kernel
theorem dX2_isWord_64 : decode cX2_isWord 64 = .ok (.ireturn, 1) := by decide +kernel
theorem dX2_step_0 : decode cX2_step 0 = .ok (.aload_n 0, 1) := by decide +kernel
theorem dX2_step_1 : decode cX2_step 1 = .ok (.getfield 19, 3) := by decide +kernel
theorem dX2_step_4 : decode cX2_step 4 = .ok (.aload_n 0, 1) := by decide +kernel
theorem dX2_step_5 : decode cX2_step 5 = .ok (.getfield 15, 3) := by decide +kernel
theorem dX2_step_8 : decode cX2_step 8 = .ok (.if_icmp .ge 30, 3) := by decide +kernel
theorem dX2_step_11 : decode cX2_step 11 = .ok (.aload_n 0, 1) := by decide +kernel
theorem dX2_step_12 : decode cX2_step 12 = .ok (.getfield 9, 3) := by decide +kernel
theorem dX2_step_15 : decode cX2_step 15 = .ok (.aload_n 0, 1) := by decide +kernel
theorem dX2_step_16 : decode cX2_step 16 = .ok (.getfield 19, 3) := by decide +kernel
theorem dX2_step_19 : decode cX2_step 19 = .ok (.iaload, 1) := by decide +kernel
theorem dX2_step_20 : decode cX2_step 20 = .ok (.bipush 32, 2) := by decide +kernel
theorem dX2_step_22 : decode cX2_step 22 = .ok (.if_icmp .ne 16, 3) := by decide +kernel
theorem dX2_step_25 : decode cX2_step 25 = .ok (.aload_n 0, 1) := by decide +kernel
theorem dX2_step_26 : decode cX2_step 26 = .ok (.dup, 1) := by decide +kernel
theorem dX2_step_27 : decode cX2_step 27 = .ok (.getfield 19, 3) := by decide +kernel
theorem dX2_step_30 : decode cX2_step 30 = .ok (.iconst 1, 1) := by decide +kernel
theorem dX2_step_31 : decode cX2_step 31 = .ok (.iadd, 1) := by decide +kernel
theorem dX2_step_32 : decode cX2_step 32 = .ok (.putfield 19, 3) := by decide +kernel
theorem dX2_step_35 : decode cX2_step 35 = .ok (.goto (-35), 3) := by decide +kernel
theorem dX2_step_38 : decode cX2_step 38 = .ok (.aload_n 0, 1) := by decide +kernel
theorem dX2_step_39 : decode cX2_step 39 = .ok (.aload_n 0, 1) := by decide +kernel
theorem dX2_step_40 : decode cX2_step 40 = .ok (.getfield 19, 3) := by decide +kernel
theorem dX2_step_43 : decode cX2_step 43 = .ok (.putfield 101, 3) := by decide +kernel
theorem dX2_step_46 : decode cX2_step 46 = .ok (.aload_n 0, 1) := by decide +kernel
theorem dX2_step_47 : decode cX2_step 47 = .ok (.getfield 19, 3) := by decide +kernel
theorem dX2_step_50 : decode cX2_step 50 = .ok (.aload_n 0, 1) := by decide +kernel
theorem dX2_step_51 : decode cX2_step 51 = .ok (.getfield 15, 3) := by decide +kernel
theorem dX2_step_54 : decode cX2_step 54 = .ok (.if_icmp .lt 9, 3) := by decide +kernel
theorem dX2_step_57 : decode cX2_step 57 = .ok (.aload_n 0, 1) := by decide +kernel
theorem dX2_step_58 : decode cX2_step 58 = .ok (.iconst 0, 1) := by decide +kernel
theorem dX2_step_59 : decode cX2_step 59 = .ok (.putfield 29, 3) := by decide +kernel
theorem dX2_step_62 : decode cX2_step 62 = .ok (.return_, 1) := by decide +kernel
theorem dX2_step_63 : decode cX2_step 63 = .ok (.aload_n 0, 1) := by decide +kernel
theorem dX2_step_64 : decode cX2_step 64 = .ok (.aload_n 0, 1) := by decide +kernel
theorem dX2_step_65 : decode cX2_step 65 = .ok (.getfield 9, 3) := by decide +kernel
theorem dX2_step_68 : decode cX2_step 68 = .ok (.aload_n 0, 1) := by decide +kernel
theorem dX2_step_69 : decode cX2_step 69 = .ok (.getfield 19, 3) := by decide +kernel
theorem dX2_step_72 : decode cX2_step 72 = .ok (.iaload, 1) := by decide +kernel
theorem dX2_step_73 : decode cX2_step 73 = .ok (.invokestatic 118, 3) := by decide +kernel
theorem dX2_step_76 : decode cX2_step 76 = .ok (.putfield 29, 3) := by decide +kernel
theorem dX2_step_79 : decode cX2_step 79 = .ok (.aload_n 0, 1) := by decide +kernel
theorem dX2_step_80 : decode cX2_step 80 = .ok (.dup, 1) := by decide +kernel
theorem dX2_step_81 : decode cX2_step 81 = .ok (.getfield 19, 3) := by decide +kernel
theorem dX2_step_84 : decode cX2_step 84 = .ok (.iconst 1, 1) := by decide +kernel
theorem dX2_step_85 : decode cX2_step 85 = .ok (.iadd, 1) := by decide +kernel
theorem dX2_step_86 : decode cX2_step 86 = .ok (.putfield 19, 3) := by decide +kernel
theorem dX2_step_89 : decode cX2_step 89 = .ok (.aload_n 0, 1) := by decide +kernel
theorem dX2_step_90 : decode cX2_step 90 = .ok (.getfield 19, 3) := by decide +kernel
theorem dX2_step_93 : decode cX2_step 93 = .ok (.aload_n 0, 1) := by decide +kernel
theorem dX2_step_94 : decode cX2_step 94 = .ok (.getfield 15, 3) := by decide +kernel
theorem dX2_step_97 : decode cX2_step 97 = .ok (.if_icmp .ge 45, 3) := by decide +kernel
theorem dX2_step_100 : decode cX2_step 100 = .ok (.aload_n 0, 1) := by decide +kernel
theorem dX2_step_101 : decode cX2_step 101 = .ok (.getfield 29, 3) := by decide +kernel
theorem dX2_step_104 : decode cX2_step 104 = .ok (.invokestatic 122, 3) := by decide +kernel
theorem dX2_step_107 : decode cX2_step 107 = .ok (.ifCond .eq 35, 3) := by decide +kernel
theorem dX2_step_110 : decode cX2_step 110 = .ok (.aload_n 0, 1) := by decide +kernel
theorem dX2_step_111 : decode cX2_step 111 = .ok (.getfield 9, 3) := by decide +kernel
theorem dX2_step_114 : decode cX2_step 114 = .ok (.aload_n 0, 1) := by decide +kernel
theorem dX2_step_115 : decode cX2_step 115 = .ok (.getfield 19, 3) := by decide +kernel
theorem dX2_step_118 : decode cX2_step 118 = .ok (.iaload, 1) := by decide +kernel
theorem dX2_step_119 : decode cX2_step 119 = .ok (.invokestatic 118, 3) := by decide +kernel
theorem dX2_step_122 : decode cX2_step 122 = .ok (.aload_n 0, 1) := by decide +kernel
theorem dX2_step_123 : decode cX2_step 123 = .ok (.getfield 29, 3) := by decide +kernel
theorem dX2_step_126 : decode cX2_step 126 = .ok (.if_icmp .ne 16, 3) := by decide +kernel
theorem dX2_step_129 : decode cX2_step 129 = .ok (.aload_n 0, 1) := by decide +kernel
theorem dX2_step_130 : decode cX2_step 130 = .ok (.dup, 1) := by decide +kernel
theorem dX2_step_131 : decode cX2_step 131 = .ok (.getfield 19, 3) := by decide +kernel
theorem dX2_step_134 : decode cX2_step 134 = .ok (.iconst 1, 1) := by decide +kernel
theorem dX2_step_135 : decode cX2_step 135 = .ok (.iadd, 1) := by decide +kernel
theorem dX2_step_136 : decode cX2_step 136 = .ok (.putfield 19, 3) := by decide +kernel
theorem dX2_step_139 : decode cX2_step 139 = .ok (.goto (-50), 3) := by decide +kernel
theorem dX2_step_142 : decode cX2_step 142 = .ok (.return_, 1) := by decide +kernel
theorem dX2_isLong_0 : decode cX2_isLong 0 = .ok (.iload_n 0, 1) := by decide +kernel
theorem dX2_isLong_1 : decode cX2_isLong 1 = .ok (.iconst 1, 1) := by decide +kernel
theorem dX2_isLong_2 : decode cX2_isLong 2 = .ok (.if_icmp .eq 8, 3) := by decide +kernel
theorem dX2_isLong_5 : decode cX2_isLong 5 = .ok (.iload_n 0, 1) := by decide +kernel
theorem dX2_isLong_6 : decode cX2_isLong 6 = .ok (.iconst 2, 1) := by decide +kernel
theorem dX2_isLong_7 : decode cX2_isLong 7 = .ok (.if_icmp .ne 7, 3) := by decide +kernel
theorem dX2_isLong_10 : decode cX2_isLong 10 = .ok (.iconst 1, 1) := by decide +kernel
theorem dX2_isLong_11 : decode cX2_isLong 11 = .ok (.goto 4, 3) := by decide +kernel
theorem dX2_isLong_14 : decode cX2_isLong 14 = .ok (.iconst 0, 1) := by decide +kernel
theorem dX2_isLong_15 : decode cX2_isLong 15 = .ok (.ireturn, 1) := by decide +kernel
theorem dX2_tokenOf_0 : decode cX2_tokenOf 0 = .ok (.iload_n 0, 1) := by decide +kernel
theorem dX2_tokenOf_1 : decode cX2_tokenOf 1 = .ok (.bipush 97, 2) := by decide +kernel
theorem dX2_tokenOf_3 : decode cX2_tokenOf 3 = .ok (.if_icmp .lt 11, 3) := by decide +kernel
theorem dX2_tokenOf_6 : decode cX2_tokenOf 6 = .ok (.iload_n 0, 1) := by decide +kernel
theorem dX2_tokenOf_7 : decode cX2_tokenOf 7 = .ok (.bipush 122, 2) := by decide +kernel
theorem dX2_tokenOf_9 : decode cX2_tokenOf 9 = .ok (.if_icmp .gt 5, 3) := by decide +kernel
theorem dX2_tokenOf_12 : decode cX2_tokenOf 12 = .ok (.iconst 1, 1) := by decide +kernel
theorem dX2_tokenOf_13 : decode cX2_tokenOf 13 = .ok (.ireturn, 1) := by decide +kernel
theorem dX2_tokenOf_14 : decode cX2_tokenOf 14 = .ok (.iload_n 0, 1) := by decide +kernel
theorem dX2_tokenOf_15 : decode cX2_tokenOf 15 = .ok (.bipush 48, 2) := by decide +kernel
theorem dX2_tokenOf_17 : decode cX2_tokenOf 17 = .ok (.if_icmp .lt 11, 3) := by decide +kernel
theorem dX2_tokenOf_20 : decode cX2_tokenOf 20 = .ok (.iload_n 0, 1) := by decide +kernel
theorem dX2_tokenOf_21 : decode cX2_tokenOf 21 = .ok (.bipush 57, 2) := by decide +kernel
theorem dX2_tokenOf_23 : decode cX2_tokenOf 23 = .ok (.if_icmp .gt 5, 3) := by decide +kernel
theorem dX2_tokenOf_26 : decode cX2_tokenOf 26 = .ok (.iconst 2, 1) := by decide +kernel
theorem dX2_tokenOf_27 : decode cX2_tokenOf 27 = .ok (.ireturn, 1) := by decide +kernel
theorem dX2_tokenOf_28 : decode cX2_tokenOf 28 = .ok (.iload_n 0, 1) := by decide +kernel
theorem dX2_tokenOf_29 : decode cX2_tokenOf 29 = .ok (.bipush 59, 2) := by decide +kernel
theorem dX2_tokenOf_31 : decode cX2_tokenOf 31 = .ok (.if_icmp .ne 7, 3) := by decide +kernel
theorem dX2_tokenOf_34 : decode cX2_tokenOf 34 = .ok (.iconst 3, 1) := by decide +kernel
theorem dX2_tokenOf_35 : decode cX2_tokenOf 35 = .ok (.goto 4, 3) := by decide +kernel
theorem dX2_tokenOf_38 : decode cX2_tokenOf 38 = .ok (.iconst 4, 1) := by decide +kernel
theorem dX2_tokenOf_39 : decode cX2_tokenOf 39 = .ok (.ireturn, 1) := by decide +kernel
theorem dX3_init_0 : decode cX3_init 0 = .ok (.aload_n 0, 1) := by decide +kernel
theorem dX3_init_1 : decode cX3_init 1 = .ok (.invokespecial 1, 3) := by decide +kernel
theorem dX3_init_4 : decode cX3_init 4 = .ok (.aload_n 0, 1) := by decide +kernel
theorem dX3_init_5 : decode cX3_init 5 = .ok (.new 7, 3) := by decide +kernel
theorem dX3_init_8 : decode cX3_init 8 = .ok (.dup, 1) := by decide +kernel
theorem dX3_init_9 : decode cX3_init 9 = .ok (.invokespecial 9, 3) := by decide +kernel
theorem dX3_init_12 : decode cX3_init 12 = .ok (.putfield 10, 3) := by decide +kernel
theorem dX3_init_15 : decode cX3_init 15 = .ok (.aload_n 0, 1) := by decide +kernel
theorem dX3_init_16 : decode cX3_init 16 = .ok (.new 7, 3) := by decide +kernel
theorem dX3_init_19 : decode cX3_init 19 = .ok (.dup, 1) := by decide +kernel
theorem dX3_init_20 : decode cX3_init 20 = .ok (.invokespecial 9, 3) := by decide +kernel
theorem dX3_init_23 : decode cX3_init 23 = .ok (.putfield 16, 3) := by decide +kernel
theorem dX3_init_26 : decode cX3_init 26 = .ok (.aload_n 0, 1) := by decide +kernel
theorem dX3_init_27 : decode cX3_init 27 = .ok (.new 7, 3) := by decide +kernel
theorem dX3_init_30 : decode cX3_init 30 = .ok (.dup, 1) := by decide +kernel
theorem dX3_init_31 : decode cX3_init 31 = .ok (.invokespecial 9, 3) := by decide +kernel
theorem dX3_init_34 : decode cX3_init 34 = .ok (.putfield 19, 3) := by decide +kernel
theorem dX3_init_37 : decode cX3_init 37 = .ok (.aload_n 0, 1) := by decide +kernel
theorem dX3_init_38 : decode cX3_init 38 = .ok (.new 22, 3) := by decide +kernel
theorem dX3_init_41 : decode cX3_init 41 = .ok (.dup, 1) := by decide +kernel
theorem dX3_init_42 : decode cX3_init 42 = .ok (.invokespecial 24, 3) := by decide +kernel
theorem dX3_init_45 : decode cX3_init 45 = .ok (.putfield 25, 3) := by decide +kernel
theorem dX3_init_48 : decode cX3_init 48 = .ok (.aload_n 0, 1) := by decide +kernel
theorem dX3_init_49 : decode cX3_init 49 = .ok (.bipush 8, 2) := by decide +kernel
theorem dX3_init_51 : decode cX3_init 51 = .ok (.anewarray 29, 3) := by decide +kernel
theorem dX3_init_54 : decode cX3_init 54 = .ok (.putfield 31, 3) := by decide +kernel
theorem dX3_init_57 : decode cX3_init 57 = .ok (.aload_n 0, 1) := by decide +kernel
theorem dX3_init_58 : decode cX3_init 58 = .ok (.iconst 5, 1) := by decide +kernel
theorem dX3_init_59 : decode cX3_init 59 = .ok (.newarray .int, 2) := by decide +kernel
theorem dX3_init_61 : decode cX3_init 61 = .ok (.putfield 35, 3) := by decide +kernel
theorem dX3_init_64 : decode cX3_init 64 = .ok (.aload_n 0, 1) := by decide +kernel
theorem dX3_init_65 : decode cX3_init 65 = .ok (.bipush 9, 2) := by decide +kernel
theorem dX3_init_67 : decode cX3_init 67 = .ok (.newarray .int, 2) := by decide +kernel
theorem dX3_init_69 : decode cX3_init 69 = .ok (.putfield 39, 3) := by decide +kernel
theorem dX3_init_72 : decode cX3_init 72 = .ok (.iconst 0, 1) := by decide +kernel
theorem dX3_init_73 : decode cX3_init 73 = .ok (.istore_n 1, 1) := by decide +kernel
theorem dX3_init_74 : decode cX3_init 74 = .ok (.iload_n 1, 1) := by decide +kernel
theorem dX3_init_75 : decode cX3_init 75 = .ok (.bipush 8, 2) := by decide +kernel
theorem dX3_init_77 : decode cX3_init 77 = .ok (.if_icmp .ge 22, 3) := by decide +kernel
theorem dX3_init_80 : decode cX3_init 80 = .ok (.aload_n 0, 1) := by decide +kernel
theorem dX3_init_81 : decode cX3_init 81 = .ok (.getfield 31, 3) := by decide +kernel
theorem dX3_init_84 : decode cX3_init 84 = .ok (.iload_n 1, 1) := by decide +kernel
theorem dX3_init_85 : decode cX3_init 85 = .ok (.new 29, 3) := by decide +kernel
theorem dX3_init_88 : decode cX3_init 88 = .ok (.dup, 1) := by decide +kernel
theorem dX3_init_89 : decode cX3_init 89 = .ok (.invokespecial 42, 3) := by decide +kernel
theorem dX3_init_92 : decode cX3_init 92 = .ok (.aastore, 1) := by decide +kernel
theorem dX3_init_93 : decode cX3_init 93 = .ok (.iinc 1 1, 3) := by decide +kernel
theorem dX3_init_96 : decode cX3_init 96 = .ok (.goto (-22), 3) := by decide +kernel
theorem dX3_init_99 : decode cX3_init 99 = .ok (.return_, 1) := by decide +kernel
theorem dX3_row_0 : decode cX3_row 0 = .ok (.iload_n 1, 1) := by decide +kernel
theorem dX3_row_1 : decode cX3_row 1 = .ok (.invokestatic 43, 3) := by decide +kernel
theorem dX3_row_4 : decode cX3_row 4 = .ok (.ifCond .eq 22, 3) := by decide +kernel
theorem dX3_row_7 : decode cX3_row 7 = .ok (.iload_n 2, 1) := by decide +kernel
theorem dX3_row_8 : decode cX3_row 8 = .ok (.iconst 0, 1) := by decide +kernel
theorem dX3_row_9 : decode cX3_row 9 = .ok (.iconst 4, 1) := by decide +kernel
theorem dX3_row_10 : decode cX3_row 10 = .ok (.invokestatic 47, 3) := by decide +kernel
theorem dX3_row_13 : decode cX3_row 13 = .ok (.ifCond .eq 13, 3) := by decide +kernel
theorem dX3_row_16 : decode cX3_row 16 = .ok (.iload_n 3, 1) := by decide +kernel
theorem dX3_row_17 : decode cX3_row 17 = .ok (.iconst 0, 1) := by decide +kernel
theorem dX3_row_18 : decode cX3_row 18 = .ok (.bipush 40, 2) := by decide +kernel
theorem dX3_row_20 : decode cX3_row 20 = .ok (.invokestatic 47, 3) := by decide +kernel
theorem dX3_row_23 : decode cX3_row 23 = .ok (.ifCond .ne 10, 3) := by decide +kernel
theorem dX3_row_26 : decode cX3_row 26 = .ok (.aload_n 0, 1) := by decide +kernel
theorem dX3_row_27 : decode cX3_row 27 = .ok (.bipush (-2), 2) := by decide +kernel
theorem dX3_row_29 : decode cX3_row 29 = .ok (.invokevirtual 51, 3) := by decide +kernel
theorem dX3_row_32 : decode cX3_row 32 = .ok (.ireturn, 1) := by decide +kernel
theorem dX3_row_33 : decode cX3_row 33 = .ok (.aload_n 0, 1) := by decide +kernel
theorem dX3_row_34 : decode cX3_row 34 = .ok (.getfield 31, 3) := by decide +kernel
theorem dX3_row_37 : decode cX3_row 37 = .ok (.iload_n 1, 1) := by decide +kernel
theorem dX3_row_38 : decode cX3_row 38 = .ok (.aaload, 1) := by decide +kernel
theorem dX3_row_39 : decode cX3_row 39 = .ok (.iload_n 2, 1) := by decide +kernel
theorem dX3_row_40 : decode cX3_row 40 = .ok (.iload_n 3, 1) := by decide +kernel
theorem dX3_row_41 : decode cX3_row 41 = .ok (.invokevirtual 55, 3) := by decide +kernel
theorem dX3_row_44 : decode cX3_row 44 = .ok (.iconst 1, 1) := by decide +kernel
theorem dX3_row_45 : decode cX3_row 45 = .ok (.ireturn, 1) := by decide +kernel
theorem dX3_set_0 : decode cX3_set 0 = .ok (.aload_n 0, 1) := by decide +kernel
theorem dX3_set_1 : decode cX3_set 1 = .ok (.iload_n 1, 1) := by decide +kernel
theorem dX3_set_2 : decode cX3_set 2 = .ok (.invokevirtual 59, 3) := by decide +kernel
theorem dX3_set_5 : decode cX3_set 5 = .ok (.istore 5, 2) := by decide +kernel
theorem dX3_set_7 : decode cX3_set 7 = .ok (.iload 5, 2) := by decide +kernel
theorem dX3_set_9 : decode cX3_set 9 = .ok (.ifCond .eq 10, 3) := by decide +kernel
theorem dX3_set_12 : decode cX3_set 12 = .ok (.aload_n 0, 1) := by decide +kernel
theorem dX3_set_13 : decode cX3_set 13 = .ok (.iload 5, 2) := by decide +kernel
theorem dX3_set_15 : decode cX3_set 15 = .ok (.invokevirtual 51, 3) := by decide +kernel
theorem dX3_set_18 : decode cX3_set 18 = .ok (.ireturn, 1) := by decide +kernel
theorem dX3_set_19 : decode cX3_set 19 = .ok (.aload_n 0, 1) := by decide +kernel
theorem dX3_set_20 : decode cX3_set 20 = .ok (.getfield 31, 3) := by decide +kernel
theorem dX3_set_23 : decode cX3_set 23 = .ok (.iload_n 1, 1) := by decide +kernel
theorem dX3_set_24 : decode cX3_set 24 = .ok (.aaload, 1) := by decide +kernel
theorem dX3_set_25 : decode cX3_set 25 = .ok (.iload_n 2, 1) := by decide +kernel
theorem dX3_set_26 : decode cX3_set 26 = .ok (.invokevirtual 62, 3) := by decide +kernel
theorem dX3_set_29 : decode cX3_set 29 = .ok (.ifCond .ne 10, 3) := by decide +kernel
theorem dX3_set_32 : decode cX3_set 32 = .ok (.aload_n 0, 1) := by decide +kernel
theorem dX3_set_33 : decode cX3_set 33 = .ok (.bipush (-2), 2) := by decide +kernel
theorem dX3_set_35 : decode cX3_set 35 = .ok (.invokevirtual 51, 3) := by decide +kernel
theorem dX3_set_38 : decode cX3_set 38 = .ok (.ireturn, 1) := by decide +kernel
theorem dX3_set_39 : decode cX3_set 39 = .ok (.aload_n 0, 1) := by decide +kernel
theorem dX3_set_40 : decode cX3_set 40 = .ok (.getfield 31, 3) := by decide +kernel
theorem dX3_set_43 : decode cX3_set 43 = .ok (.iload_n 1, 1) := by decide +kernel
theorem dX3_set_44 : decode cX3_set 44 = .ok (.aaload, 1) := by decide +kernel
theorem dX3_set_45 : decode cX3_set 45 = .ok (.iload_n 2, 1) := by decide +kernel
theorem dX3_set_46 : decode cX3_set 46 = .ok (.lload_n 3, 1) := by decide +kernel
theorem dX3_set_47 : decode cX3_set 47 = .ok (.invokevirtual 65, 3) := by decide +kernel
theorem dX3_set_50 : decode cX3_set 50 = .ok (.iconst 1, 1) := by decide +kernel
theorem dX3_set_51 : decode cX3_set 51 = .ok (.ireturn, 1) := by decide +kernel
theorem dX3_copy_0 : decode cX3_copy 0 = .ok (.iload_n 1, 1) := by decide +kernel
theorem dX3_copy_1 : decode cX3_copy 1 = .ok (.invokestatic 43, 3) := by decide +kernel
theorem dX3_copy_4 : decode cX3_copy 4 = .ok (.ifCond .eq 10, 3) := by decide +kernel
theorem dX3_copy_7 : decode cX3_copy 7 = .ok (.iload_n 2, 1) := by decide +kernel
theorem dX3_copy_8 : decode cX3_copy 8 = .ok (.invokestatic 43, 3) := by decide +kernel
theorem dX3_copy_11 : decode cX3_copy 11 = .ok (.ifCond .ne 10, 3) := by decide +kernel
theorem dX3_copy_14 : decode cX3_copy 14 = .ok (.aload_n 0, 1) := by decide +kernel
theorem dX3_copy_15 : decode cX3_copy 15 = .ok (.bipush (-2), 2) := by decide +kernel
theorem dX3_copy_17 : decode cX3_copy 17 = .ok (.invokevirtual 51, 3) := by decide +kernel
theorem dX3_copy_20 : decode cX3_copy 20 = .ok (.ireturn, 1) := by decide +kernel
theorem dX3_copy_21 : decode cX3_copy 21 = .ok (.aload_n 0, 1) := by decide +kernel
theorem dX3_copy_22 : decode cX3_copy 22 = .ok (.getfield 31, 3) := by decide +kernel
theorem dX3_copy_25 : decode cX3_copy 25 = .ok (.iload_n 1, 1) := by decide +kernel
theorem dX3_copy_26 : decode cX3_copy 26 = .ok (.aaload, 1) := by decide +kernel
theorem dX3_copy_27 : decode cX3_copy 27 = .ok (.astore 6, 2) := by decide +kernel
theorem dX3_copy_29 : decode cX3_copy 29 = .ok (.aload_n 0, 1) := by decide +kernel
theorem dX3_copy_30 : decode cX3_copy 30 = .ok (.getfield 31, 3) := by decide +kernel
theorem dX3_copy_33 : decode cX3_copy 33 = .ok (.iload_n 2, 1) := by decide +kernel
theorem dX3_copy_34 : decode cX3_copy 34 = .ok (.aaload, 1) := by decide +kernel
theorem dX3_copy_35 : decode cX3_copy 35 = .ok (.astore 7, 2) := by decide +kernel
theorem dX3_copy_37 : decode cX3_copy 37 = .ok (.aload 6, 2) := by decide +kernel
theorem dX3_copy_39 : decode cX3_copy 39 = .ok (.invokevirtual 69, 3) := by decide +kernel
theorem dX3_copy_42 : decode cX3_copy 42 = .ok (.ifCond .ne 11, 3) := by decide +kernel
theorem dX3_copy_45 : decode cX3_copy 45 = .ok (.aload 7, 2) := by decide +kernel
theorem dX3_copy_47 : decode cX3_copy 47 = .ok (.invokevirtual 69, 3) := by decide +kernel
theorem dX3_copy_50 : decode cX3_copy 50 = .ok (.ifCond .eq 10, 3) := by decide +kernel
theorem dX3_copy_53 : decode cX3_copy 53 = .ok (.aload_n 0, 1) := by decide +kernel
theorem dX3_copy_54 : decode cX3_copy 54 = .ok (.bipush (-3), 2) := by decide +kernel
theorem dX3_copy_56 : decode cX3_copy 56 = .ok (.invokevirtual 51, 3) := by decide +kernel
theorem dX3_copy_59 : decode cX3_copy 59 = .ok (.ireturn, 1) := by decide +kernel
theorem dX3_copy_60 : decode cX3_copy 60 = .ok (.aload 6, 2) := by decide +kernel
theorem dX3_copy_62 : decode cX3_copy 62 = .ok (.invokevirtual 73, 3) := by decide +kernel
theorem dX3_copy_65 : decode cX3_copy 65 = .ok (.ifCond .eq 31, 3) := by decide +kernel
theorem dX3_copy_68 : decode cX3_copy 68 = .ok (.aload 7, 2) := by decide +kernel
theorem dX3_copy_70 : decode cX3_copy 70 = .ok (.invokevirtual 73, 3) := by decide +kernel
theorem dX3_copy_73 : decode cX3_copy 73 = .ok (.ifCond .eq 23, 3) := by decide +kernel
theorem dX3_copy_76 : decode cX3_copy 76 = .ok (.aload 6, 2) := by decide +kernel
theorem dX3_copy_78 : decode cX3_copy 78 = .ok (.getfield 76, 3) := by decide +kernel
theorem dX3_copy_81 : decode cX3_copy 81 = .ok (.aload 7, 2) := by decide +kernel
theorem dX3_copy_83 : decode cX3_copy 83 = .ok (.getfield 76, 3) := by decide +kernel
theorem dX3_copy_86 : decode cX3_copy 86 = .ok (.if_icmp .eq 10, 3) := by decide +kernel
theorem dX3_copy_89 : decode cX3_copy 89 = .ok (.aload_n 0, 1) := by decide +kernel
theorem dX3_copy_90 : decode cX3_copy 90 = .ok (.bipush (-3), 2) := by decide +kernel
theorem dX3_copy_92 : decode cX3_copy 92 = .ok (.invokevirtual 51, 3) := by decide +kernel
theorem dX3_copy_95 : decode cX3_copy 95 = .ok (.ireturn, 1) := by decide +kernel
theorem dX3_copy_96 : decode cX3_copy 96 = .ok (.aload 6, 2) := by decide +kernel
theorem dX3_copy_98 : decode cX3_copy 98 = .ok (.invokevirtual 73, 3) := by decide +kernel
theorem dX3_copy_101 : decode cX3_copy 101 = .ok (.ifCond .eq 11, 3) := by decide +kernel
theorem dX3_copy_104 : decode cX3_copy 104 = .ok (.aload 7, 2) := by decide +kernel
theorem dX3_copy_106 : decode cX3_copy 106 = .ok (.invokevirtual 73, 3) := by decide +kernel
theorem dX3_copy_109 : decode cX3_copy 109 = .ok (.ifCond .ne 10, 3) := by decide +kernel
theorem dX3_copy_112 : decode cX3_copy 112 = .ok (.aload_n 0, 1) := by decide +kernel
theorem dX3_copy_113 : decode cX3_copy 113 = .ok (.bipush (-4), 2) := by decide +kernel
theorem dX3_copy_115 : decode cX3_copy 115 = .ok (.invokevirtual 51, 3) := by decide +kernel
theorem dX3_copy_118 : decode cX3_copy 118 = .ok (.ireturn, 1) := by decide +kernel
theorem dX3_copy_119 : decode cX3_copy 119 = .ok (.aload 6, 2) := by decide +kernel
theorem dX3_copy_121 : decode cX3_copy 121 = .ok (.iload_n 3, 1) := by decide +kernel
theorem dX3_copy_122 : decode cX3_copy 122 = .ok (.iload 5, 2) := by decide +kernel
theorem dX3_copy_124 : decode cX3_copy 124 = .ok (.invokevirtual 80, 3) := by decide +kernel
theorem dX3_copy_127 : decode cX3_copy 127 = .ok (.ifCond .eq 15, 3) := by decide +kernel
theorem dX3_copy_130 : decode cX3_copy 130 = .ok (.aload 7, 2) := by decide +kernel
theorem dX3_copy_132 : decode cX3_copy 132 = .ok (.iload 4, 2) := by decide +kernel
theorem dX3_copy_134 : decode cX3_copy 134 = .ok (.iload 5, 2) := by decide +kernel
theorem dX3_copy_136 : decode cX3_copy 136 = .ok (.invokevirtual 80, 3) := by decide +kernel
theorem dX3_copy_139 : decode cX3_copy 139 = .ok (.ifCond .ne 10, 3) := by decide +kernel
theorem dX3_copy_142 : decode cX3_copy 142 = .ok (.aload_n 0, 1) := by decide +kernel
theorem dX3_copy_143 : decode cX3_copy 143 = .ok (.bipush (-2), 2) := by decide +kernel
theorem dX3_copy_145 : decode cX3_copy 145 = .ok (.invokevirtual 51, 3) := by decide +kernel
theorem dX3_copy_148 : decode cX3_copy 148 = .ok (.ireturn, 1) := by decide +kernel
theorem dX3_copy_149 : decode cX3_copy 149 = .ok (.aload 6, 2) := by decide +kernel
theorem dX3_copy_151 : decode cX3_copy 151 = .ok (.getfield 84, 3) := by decide +kernel
theorem dX3_copy_154 : decode cX3_copy 154 = .ok (.iload_n 3, 1) := by decide +kernel
theorem dX3_copy_155 : decode cX3_copy 155 = .ok (.aload 7, 2) := by decide +kernel
theorem dX3_copy_157 : decode cX3_copy 157 = .ok (.getfield 84, 3) := by decide +kernel
theorem dX3_copy_160 : decode cX3_copy 160 = .ok (.iload 4, 2) := by decide +kernel
theorem dX3_copy_162 : decode cX3_copy 162 = .ok (.iload 5, 2) := by decide +kernel
theorem dX3_copy_164 : decode cX3_copy 164 = .ok (.invokestatic 88, 3) := by decide +kernel
theorem dX3_copy_167 : decode cX3_copy 167 = .ok (.iload 5, 2) := by decide +kernel
theorem dX3_copy_169 : decode cX3_copy 169 = .ok (.ireturn, 1) := by decide +kernel
theorem dX3_element_0 : decode cX3_element 0 = .ok (.iload_n 1, 1) := by decide +kernel
theorem dX3_element_1 : decode cX3_element 1 = .ok (.invokestatic 43, 3) := by decide +kernel
theorem dX3_element_4 : decode cX3_element 4 = .ok (.ifCond .eq 28, 3) := by decide +kernel
theorem dX3_element_7 : decode cX3_element 7 = .ok (.aload_n 0, 1) := by decide +kernel
theorem dX3_element_8 : decode cX3_element 8 = .ok (.getfield 31, 3) := by decide +kernel
theorem dX3_element_11 : decode cX3_element 11 = .ok (.iload_n 1, 1) := by decide +kernel
theorem dX3_element_12 : decode cX3_element 12 = .ok (.aaload, 1) := by decide +kernel
theorem dX3_element_13 : decode cX3_element 13 = .ok (.invokevirtual 73, 3) := by decide +kernel
theorem dX3_element_16 : decode cX3_element 16 = .ok (.ifCond .eq 16, 3) := by decide +kernel
theorem dX3_element_19 : decode cX3_element 19 = .ok (.aload_n 0, 1) := by decide +kernel
theorem dX3_element_20 : decode cX3_element 20 = .ok (.getfield 31, 3) := by decide +kernel
theorem dX3_element_23 : decode cX3_element 23 = .ok (.iload_n 1, 1) := by decide +kernel
theorem dX3_element_24 : decode cX3_element 24 = .ok (.aaload, 1) := by decide +kernel
theorem dX3_element_25 : decode cX3_element 25 = .ok (.iload_n 2, 1) := by decide +kernel
theorem dX3_element_26 : decode cX3_element 26 = .ok (.invokevirtual 62, 3) := by decide +kernel
theorem dX3_element_29 : decode cX3_element 29 = .ok (.ifCond .ne 5, 3) := by decide +kernel
theorem dX3_element_32 : decode cX3_element 32 = .ok (.lconst 0, 1) := by decide +kernel
theorem dX3_element_33 : decode cX3_element 33 = .ok (.lreturn, 1) := by decide +kernel
theorem dX3_element_34 : decode cX3_element 34 = .ok (.aload_n 0, 1) := by decide +kernel
theorem dX3_element_35 : decode cX3_element 35 = .ok (.getfield 31, 3) := by decide +kernel
theorem dX3_element_38 : decode cX3_element 38 = .ok (.iload_n 1, 1) := by decide +kernel
theorem dX3_element_39 : decode cX3_element 39 = .ok (.aaload, 1) := by decide +kernel
theorem dX3_element_40 : decode cX3_element 40 = .ok (.getfield 84, 3) := by decide +kernel
theorem dX3_element_43 : decode cX3_element 43 = .ok (.iload_n 2, 1) := by decide +kernel
theorem dX3_element_44 : decode cX3_element 44 = .ok (.laload, 1) := by decide +kernel
theorem dX3_element_45 : decode cX3_element 45 = .ok (.lreturn, 1) := by decide +kernel
theorem dX3_holds_0 : decode cX3_holds 0 = .ok (.iload_n 1, 1) := by decide +kernel
theorem dX3_holds_1 : decode cX3_holds 1 = .ok (.invokestatic 43, 3) := by decide +kernel
theorem dX3_holds_4 : decode cX3_holds 4 = .ok (.ifCond .eq 15, 3) := by decide +kernel
theorem dX3_holds_7 : decode cX3_holds 7 = .ok (.aload_n 0, 1) := by decide +kernel
theorem dX3_holds_8 : decode cX3_holds 8 = .ok (.getfield 31, 3) := by decide +kernel
theorem dX3_holds_11 : decode cX3_holds 11 = .ok (.iload_n 1, 1) := by decide +kernel
theorem dX3_holds_12 : decode cX3_holds 12 = .ok (.aaload, 1) := by decide +kernel
theorem dX3_holds_13 : decode cX3_holds 13 = .ok (.getfield 76, 3) := by decide +kernel
theorem dX3_holds_16 : decode cX3_holds 16 = .ok (.goto 4, 3) := by decide +kernel
theorem dX3_holds_19 : decode cX3_holds 19 = .ok (.iconst (-1), 1) := by decide +kernel
theorem dX3_holds_20 : decode cX3_holds 20 = .ok (.ireturn, 1) := by decide +kernel
theorem dX3_show_0 : decode cX3_show 0 = .ok (.iload_n 1, 1) := by decide +kernel
theorem dX3_show_1 : decode cX3_show 1 = .ok (.invokestatic 43, 3) := by decide +kernel
theorem dX3_show_4 : decode cX3_show 4 = .ok (.ifCond .eq 19, 3) := by decide +kernel
theorem dX3_show_7 : decode cX3_show 7 = .ok (.iload_n 2, 1) := by decide +kernel
theorem dX3_show_8 : decode cX3_show 8 = .ok (.iconst (-1), 1) := by decide +kernel
theorem dX3_show_9 : decode cX3_show 9 = .ok (.if_icmp .eq 21, 3) := by decide +kernel
theorem dX3_show_12 : decode cX3_show 12 = .ok (.aload_n 0, 1) := by decide +kernel
theorem dX3_show_13 : decode cX3_show 13 = .ok (.getfield 10, 3) := by decide +kernel
theorem dX3_show_16 : decode cX3_show 16 = .ok (.iload_n 2, 1) := by decide +kernel
theorem dX3_show_17 : decode cX3_show 17 = .ok (.invokevirtual 94, 3) := by decide +kernel
theorem dX3_show_20 : decode cX3_show 20 = .ok (.ifCond .ne 10, 3) := by decide +kernel
theorem dX3_show_23 : decode cX3_show 23 = .ok (.aload_n 0, 1) := by decide +kernel
theorem dX3_show_24 : decode cX3_show 24 = .ok (.bipush (-2), 2) := by decide +kernel
theorem dX3_show_26 : decode cX3_show 26 = .ok (.invokevirtual 51, 3) := by decide +kernel
theorem dX3_show_29 : decode cX3_show 29 = .ok (.ireturn, 1) := by decide +kernel
theorem dX3_show_30 : decode cX3_show 30 = .ok (.iload_n 2, 1) := by decide +kernel
theorem dX3_show_31 : decode cX3_show 31 = .ok (.iconst (-1), 1) := by decide +kernel
theorem dX3_show_32 : decode cX3_show 32 = .ok (.if_icmp .ne 15, 3) := by decide +kernel
theorem dX3_show_35 : decode cX3_show 35 = .ok (.aload_n 0, 1) := by decide +kernel
theorem dX3_show_36 : decode cX3_show 36 = .ok (.getfield 31, 3) := by decide +kernel
theorem dX3_show_39 : decode cX3_show 39 = .ok (.iload_n 1, 1) := by decide +kernel
theorem dX3_show_40 : decode cX3_show 40 = .ok (.aaload, 1) := by decide +kernel
theorem dX3_show_41 : decode cX3_show 41 = .ok (.invokevirtual 97, 3) := by decide +kernel
theorem dX3_show_44 : decode cX3_show 44 = .ok (.goto 13, 3) := by decide +kernel
theorem dX3_show_47 : decode cX3_show 47 = .ok (.aload_n 0, 1) := by decide +kernel
theorem dX3_show_48 : decode cX3_show 48 = .ok (.getfield 31, 3) := by decide +kernel
theorem dX3_show_51 : decode cX3_show 51 = .ok (.iload_n 1, 1) := by decide +kernel
theorem dX3_show_52 : decode cX3_show 52 = .ok (.aaload, 1) := by decide +kernel
theorem dX3_show_53 : decode cX3_show 53 = .ok (.iload_n 2, 1) := by decide +kernel
theorem dX3_show_54 : decode cX3_show 54 = .ok (.invokevirtual 100, 3) := by decide +kernel
theorem dX3_show_57 : decode cX3_show 57 = .ok (.iconst 1, 1) := by decide +kernel
theorem dX3_show_58 : decode cX3_show 58 = .ok (.ireturn, 1) := by decide +kernel
theorem dX3_says_0 : decode cX3_says 0 = .ok (.iload_n 1, 1) := by decide +kernel
theorem dX3_says_1 : decode cX3_says 1 = .ok (.invokestatic 43, 3) := by decide +kernel
theorem dX3_says_4 : decode cX3_says 4 = .ok (.ifCond .eq 10, 3) := by decide +kernel
theorem dX3_says_7 : decode cX3_says 7 = .ok (.iload_n 2, 1) := by decide +kernel
theorem dX3_says_8 : decode cX3_says 8 = .ok (.invokestatic 104, 3) := by decide +kernel
theorem dX3_says_11 : decode cX3_says 11 = .ok (.ifCond .ne 10, 3) := by decide +kernel
theorem dX3_says_14 : decode cX3_says 14 = .ok (.aload_n 0, 1) := by decide +kernel
theorem dX3_says_15 : decode cX3_says 15 = .ok (.bipush (-2), 2) := by decide +kernel
theorem dX3_says_17 : decode cX3_says 17 = .ok (.invokevirtual 51, 3) := by decide +kernel
theorem dX3_says_20 : decode cX3_says 20 = .ok (.ireturn, 1) := by decide +kernel
theorem dX3_says_21 : decode cX3_says 21 = .ok (.aload_n 0, 1) := by decide +kernel
theorem dX3_says_22 : decode cX3_says 22 = .ok (.getfield 31, 3) := by decide +kernel
theorem dX3_says_25 : decode cX3_says 25 = .ok (.iload_n 1, 1) := by decide +kernel
theorem dX3_says_26 : decode cX3_says 26 = .ok (.aaload, 1) := by decide +kernel
theorem dX3_says_27 : decode cX3_says 27 = .ok (.astore_n 3, 1) := by decide +kernel
theorem dX3_says_28 : decode cX3_says 28 = .ok (.aload_n 3, 1) := by decide +kernel
theorem dX3_says_29 : decode cX3_says 29 = .ok (.invokevirtual 73, 3) := by decide +kernel
theorem dX3_says_32 : decode cX3_says 32 = .ok (.ifCond .eq 10, 3) := by decide +kernel
theorem dX3_says_35 : decode cX3_says 35 = .ok (.aload_n 0, 1) := by decide +kernel
theorem dX3_says_36 : decode cX3_says 36 = .ok (.bipush (-3), 2) := by decide +kernel
theorem dX3_says_38 : decode cX3_says 38 = .ok (.invokevirtual 51, 3) := by decide +kernel
theorem dX3_says_41 : decode cX3_says 41 = .ok (.ireturn, 1) := by decide +kernel
theorem dX3_says_42 : decode cX3_says 42 = .ok (.aload_n 3, 1) := by decide +kernel
theorem dX3_says_43 : decode cX3_says 43 = .ok (.invokevirtual 69, 3) := by decide +kernel
theorem dX3_says_46 : decode cX3_says 46 = .ok (.ifCond .ne 10, 3) := by decide +kernel
theorem dX3_says_49 : decode cX3_says 49 = .ok (.aload_n 0, 1) := by decide +kernel
theorem dX3_says_50 : decode cX3_says 50 = .ok (.bipush (-4), 2) := by decide +kernel
theorem dX3_says_52 : decode cX3_says 52 = .ok (.invokevirtual 51, 3) := by decide +kernel
theorem dX3_says_55 : decode cX3_says 55 = .ok (.ireturn, 1) := by decide +kernel
theorem dX3_says_56 : decode cX3_says 56 = .ok (.aload_n 3, 1) := by decide +kernel
theorem dX3_says_57 : decode cX3_says 57 = .ok (.getfield 76, 3) := by decide +kernel
theorem dX3_says_60 : decode cX3_says 60 = .ok (.bipush 10, 2) := by decide +kernel
theorem dX3_says_62 : decode cX3_says 62 = .ok (.isub, 1) := by decide +kernel
theorem dX3_says_63 : decode cX3_says 63 = .ok (.istore 4, 2) := by decide +kernel
theorem dX3_says_65 : decode cX3_says 65 = .ok (.aload_n 0, 1) := by decide +kernel
theorem dX3_says_66 : decode cX3_says 66 = .ok (.getfield 10, 3) := by decide +kernel
theorem dX3_says_69 : decode cX3_says 69 = .ok (.iload 4, 2) := by decide +kernel
theorem dX3_says_71 : decode cX3_says 71 = .ok (.invokevirtual 94, 3) := by decide +kernel
theorem dX3_says_74 : decode cX3_says 74 = .ok (.ifCond .eq 20, 3) := by decide +kernel
theorem dX3_says_77 : decode cX3_says 77 = .ok (.aload_n 0, 1) := by decide +kernel
theorem dX3_says_78 : decode cX3_says 78 = .ok (.getfield 10, 3) := by decide +kernel
theorem dX3_says_81 : decode cX3_says 81 = .ok (.getfield 107, 3) := by decide +kernel
theorem dX3_says_84 : decode cX3_says 84 = .ok (.iload 4, 2) := by decide +kernel
theorem dX3_says_86 : decode cX3_says 86 = .ok (.iaload, 1) := by decide +kernel
theorem dX3_says_87 : decode cX3_says 87 = .ok (.iload_n 2, 1) := by decide +kernel
theorem dX3_says_88 : decode cX3_says 88 = .ok (.invokestatic 110, 3) := by decide +kernel
theorem dX3_says_91 : decode cX3_says 91 = .ok (.ifCond .ne 10, 3) := by decide +kernel
theorem dX3_says_94 : decode cX3_says 94 = .ok (.aload_n 0, 1) := by decide +kernel
theorem dX3_says_95 : decode cX3_says 95 = .ok (.bipush (-3), 2) := by decide +kernel
theorem dX3_says_97 : decode cX3_says 97 = .ok (.invokevirtual 51, 3) := by decide +kernel
theorem dX3_says_100 : decode cX3_says 100 = .ok (.ireturn, 1) := by decide +kernel
theorem dX3_says_101 : decode cX3_says 101 = .ok (.aload_n 0, 1) := by decide +kernel
theorem dX3_says_102 : decode cX3_says 102 = .ok (.iload 4, 2) := by decide +kernel
theorem dX3_says_104 : decode cX3_says 104 = .ok (.iload_n 2, 1) := by decide +kernel
theorem dX3_says_105 : decode cX3_says 105 = .ok (.invokevirtual 113, 3) := by decide +kernel
theorem dX3_says_108 : decode cX3_says 108 = .ok (.ireturn, 1) := by decide +kernel
theorem dX3_term_0 : decode cX3_term 0 = .ok (.iload_n 1, 1) := by decide +kernel
theorem dX3_term_1 : decode cX3_term 1 = .ok (.iconst 1, 1) := by decide +kernel
theorem dX3_term_2 : decode cX3_term 2 = .ok (.bipush 9, 2) := by decide +kernel
theorem dX3_term_4 : decode cX3_term 4 = .ok (.invokestatic 47, 3) := by decide +kernel
theorem dX3_term_7 : decode cX3_term 7 = .ok (.ifCond .ne 10, 3) := by decide +kernel
theorem dX3_term_10 : decode cX3_term 10 = .ok (.aload_n 0, 1) := by decide +kernel
theorem dX3_term_11 : decode cX3_term 11 = .ok (.bipush (-2), 2) := by decide +kernel
theorem dX3_term_13 : decode cX3_term 13 = .ok (.invokevirtual 51, 3) := by decide +kernel
theorem dX3_term_16 : decode cX3_term 16 = .ok (.ireturn, 1) := by decide +kernel
theorem dX3_term_17 : decode cX3_term 17 = .ok (.aload_n 0, 1) := by decide +kernel
theorem dX3_term_18 : decode cX3_term 18 = .ok (.getfield 10, 3) := by decide +kernel
theorem dX3_term_21 : decode cX3_term 21 = .ok (.getfield 117, 3) := by decide +kernel
theorem dX3_term_24 : decode cX3_term 24 = .ok (.istore_n 2, 1) := by decide +kernel
theorem dX3_term_25 : decode cX3_term 25 = .ok (.aload_n 0, 1) := by decide +kernel
theorem dX3_term_26 : decode cX3_term 26 = .ok (.getfield 10, 3) := by decide +kernel
theorem dX3_term_29 : decode cX3_term 29 = .ok (.iload_n 1, 1) := by decide +kernel
theorem dX3_term_30 : decode cX3_term 30 = .ok (.invokevirtual 120, 3) := by decide +kernel
theorem dX3_term_33 : decode cX3_term 33 = .ok (.iload_n 2, 1) := by decide +kernel
theorem dX3_term_34 : decode cX3_term 34 = .ok (.ireturn, 1) := by decide +kernel
theorem dX3_person_0 : decode cX3_person 0 = .ok (.iload_n 1, 1) := by decide +kernel
theorem dX3_person_1 : decode cX3_person 1 = .ok (.invokestatic 104, 3) := by decide +kernel
theorem dX3_person_4 : decode cX3_person 4 = .ok (.ifCond .eq 13, 3) := by decide +kernel
theorem dX3_person_7 : decode cX3_person 7 = .ok (.iload_n 2, 1) := by decide +kernel
theorem dX3_person_8 : decode cX3_person 8 = .ok (.iconst 0, 1) := by decide +kernel
theorem dX3_person_9 : decode cX3_person 9 = .ok (.bipush 9, 2) := by decide +kernel
theorem dX3_person_11 : decode cX3_person 11 = .ok (.invokestatic 47, 3) := by decide +kernel
theorem dX3_person_14 : decode cX3_person 14 = .ok (.ifCond .ne 10, 3) := by decide +kernel
theorem dX3_person_17 : decode cX3_person 17 = .ok (.aload_n 0, 1) := by decide +kernel
theorem dX3_person_18 : decode cX3_person 18 = .ok (.bipush (-2), 2) := by decide +kernel
theorem dX3_person_20 : decode cX3_person 20 = .ok (.invokevirtual 51, 3) := by decide +kernel
theorem dX3_person_23 : decode cX3_person 23 = .ok (.ireturn, 1) := by decide +kernel
theorem dX3_person_24 : decode cX3_person 24 = .ok (.aload_n 0, 1) := by decide +kernel
theorem dX3_person_25 : decode cX3_person 25 = .ok (.getfield 10, 3) := by decide +kernel
theorem dX3_person_28 : decode cX3_person 28 = .ok (.getfield 123, 3) := by decide +kernel
theorem dX3_person_31 : decode cX3_person 31 = .ok (.bipush 6, 2) := by decide +kernel
theorem dX3_person_33 : decode cX3_person 33 = .ok (.if_icmp .lt 10, 3) := by decide +kernel
theorem dX3_person_36 : decode cX3_person 36 = .ok (.aload_n 0, 1) := by decide +kernel
theorem dX3_person_37 : decode cX3_person 37 = .ok (.bipush (-6), 2) := by decide +kernel
theorem dX3_person_39 : decode cX3_person 39 = .ok (.invokevirtual 51, 3) := by decide +kernel
theorem dX3_person_42 : decode cX3_person 42 = .ok (.ireturn, 1) := by decide +kernel
theorem dX3_person_43 : decode cX3_person 43 = .ok (.aload_n 0, 1) := by decide +kernel
theorem dX3_person_44 : decode cX3_person 44 = .ok (.getfield 10, 3) := by decide +kernel
theorem dX3_person_47 : decode cX3_person 47 = .ok (.iload_n 1, 1) := by decide +kernel
theorem dX3_person_48 : decode cX3_person 48 = .ok (.iload_n 2, 1) := by decide +kernel
theorem dX3_person_49 : decode cX3_person 49 = .ok (.invokevirtual 126, 3) := by decide +kernel
theorem dX3_person_52 : decode cX3_person 52 = .ok (.aload_n 0, 1) := by decide +kernel
theorem dX3_person_53 : decode cX3_person 53 = .ok (.getfield 10, 3) := by decide +kernel
theorem dX3_person_56 : decode cX3_person 56 = .ok (.getfield 123, 3) := by decide +kernel
theorem dX3_person_59 : decode cX3_person 59 = .ok (.iconst 1, 1) := by decide +kernel
theorem dX3_person_60 : decode cX3_person 60 = .ok (.isub, 1) := by decide +kernel
theorem dX3_person_61 : decode cX3_person 61 = .ok (.ireturn, 1) := by decide +kernel
theorem dX3_allow_0 : decode cX3_allow 0 = .ok (.aload_n 0, 1) := by decide +kernel
theorem dX3_allow_1 : decode cX3_allow 1 = .ok (.getfield 10, 3) := by decide +kernel
theorem dX3_allow_4 : decode cX3_allow 4 = .ok (.iload_n 1, 1) := by decide +kernel
theorem dX3_allow_5 : decode cX3_allow 5 = .ok (.invokevirtual 129, 3) := by decide +kernel
theorem dX3_allow_8 : decode cX3_allow 8 = .ok (.ifCond .ne 10, 3) := by decide +kernel
theorem dX3_allow_11 : decode cX3_allow 11 = .ok (.aload_n 0, 1) := by decide +kernel
theorem dX3_allow_12 : decode cX3_allow 12 = .ok (.bipush (-2), 2) := by decide +kernel
theorem dX3_allow_14 : decode cX3_allow 14 = .ok (.invokevirtual 51, 3) := by decide +kernel
theorem dX3_allow_17 : decode cX3_allow 17 = .ok (.ireturn, 1) := by decide +kernel
theorem dX3_allow_18 : decode cX3_allow 18 = .ok (.aload_n 0, 1) := by decide +kernel
theorem dX3_allow_19 : decode cX3_allow 19 = .ok (.getfield 10, 3) := by decide +kernel
theorem dX3_allow_22 : decode cX3_allow 22 = .ok (.iload_n 1, 1) := by decide +kernel
theorem dX3_allow_23 : decode cX3_allow 23 = .ok (.invokevirtual 132, 3) := by decide +kernel
theorem dX3_allow_26 : decode cX3_allow 26 = .ok (.iload_n 2, 1) := by decide +kernel
theorem dX3_allow_27 : decode cX3_allow 27 = .ok (.if_icmp .ne 5, 3) := by decide +kernel
theorem dX3_allow_30 : decode cX3_allow 30 = .ok (.iconst 0, 1) := by decide +kernel
theorem dX3_allow_31 : decode cX3_allow 31 = .ok (.ireturn, 1) := by decide +kernel
theorem dX3_allow_32 : decode cX3_allow 32 = .ok (.aload_n 0, 1) := by decide +kernel
theorem dX3_allow_33 : decode cX3_allow 33 = .ok (.getfield 10, 3) := by decide +kernel
theorem dX3_allow_36 : decode cX3_allow 36 = .ok (.aload_n 0, 1) := by decide +kernel
theorem dX3_allow_37 : decode cX3_allow 37 = .ok (.getfield 10, 3) := by decide +kernel
theorem dX3_allow_40 : decode cX3_allow 40 = .ok (.getfield 135, 3) := by decide +kernel
theorem dX3_allow_43 : decode cX3_allow 43 = .ok (.iconst 1, 1) := by decide +kernel
theorem dX3_allow_44 : decode cX3_allow 44 = .ok (.iload_n 1, 1) := by decide +kernel
theorem dX3_allow_45 : decode cX3_allow 45 = .ok (.ishl, 1) := by decide +kernel
theorem dX3_allow_46 : decode cX3_allow 46 = .ok (.ixor, 1) := by decide +kernel
theorem dX3_allow_47 : decode cX3_allow 47 = .ok (.putfield 135, 3) := by decide +kernel
theorem dX3_allow_50 : decode cX3_allow 50 = .ok (.iconst 1, 1) := by decide +kernel
theorem dX3_allow_51 : decode cX3_allow 51 = .ok (.ireturn, 1) := by decide +kernel
theorem dX3_weight_0 : decode cX3_weight 0 = .ok (.aload_n 0, 1) := by decide +kernel
theorem dX3_weight_1 : decode cX3_weight 1 = .ok (.getfield 10, 3) := by decide +kernel
theorem dX3_weight_4 : decode cX3_weight 4 = .ok (.iload_n 1, 1) := by decide +kernel
theorem dX3_weight_5 : decode cX3_weight 5 = .ok (.invokevirtual 129, 3) := by decide +kernel
theorem dX3_weight_8 : decode cX3_weight 8 = .ok (.ifCond .eq 13, 3) := by decide +kernel
theorem dX3_weight_11 : decode cX3_weight 11 = .ok (.iload_n 2, 1) := by decide +kernel
theorem dX3_weight_12 : decode cX3_weight 12 = .ok (.iconst 0, 1) := by decide +kernel
theorem dX3_weight_13 : decode cX3_weight 13 = .ok (.bipush 9, 2) := by decide +kernel
theorem dX3_weight_15 : decode cX3_weight 15 = .ok (.invokestatic 47, 3) := by decide +kernel
theorem dX3_weight_18 : decode cX3_weight 18 = .ok (.ifCond .ne 10, 3) := by decide +kernel
theorem dX3_weight_21 : decode cX3_weight 21 = .ok (.aload_n 0, 1) := by decide +kernel
theorem dX3_weight_22 : decode cX3_weight 22 = .ok (.bipush (-2), 2) := by decide +kernel
theorem dX3_weight_24 : decode cX3_weight 24 = .ok (.invokevirtual 51, 3) := by decide +kernel
theorem dX3_weight_27 : decode cX3_weight 27 = .ok (.ireturn, 1) := by decide +kernel
theorem dX3_weight_28 : decode cX3_weight 28 = .ok (.aload_n 0, 1) := by decide +kernel
theorem dX3_weight_29 : decode cX3_weight 29 = .ok (.getfield 10, 3) := by decide +kernel
theorem dX3_weight_32 : decode cX3_weight 32 = .ok (.getfield 138, 3) := by decide +kernel
theorem dX3_weight_35 : decode cX3_weight 35 = .ok (.iload_n 1, 1) := by decide +kernel
theorem dX3_weight_36 : decode cX3_weight 36 = .ok (.iaload, 1) := by decide +kernel
theorem dX3_weight_37 : decode cX3_weight 37 = .ok (.istore_n 3, 1) := by decide +kernel
theorem dX3_weight_38 : decode cX3_weight 38 = .ok (.aload_n 0, 1) := by decide +kernel
theorem dX3_weight_39 : decode cX3_weight 39 = .ok (.getfield 10, 3) := by decide +kernel
theorem dX3_weight_42 : decode cX3_weight 42 = .ok (.getfield 138, 3) := by decide +kernel
theorem dX3_weight_45 : decode cX3_weight 45 = .ok (.iload_n 1, 1) := by decide +kernel
theorem dX3_weight_46 : decode cX3_weight 46 = .ok (.iload_n 2, 1) := by decide +kernel
theorem dX3_weight_47 : decode cX3_weight 47 = .ok (.iastore, 1) := by decide +kernel
theorem dX3_weight_48 : decode cX3_weight 48 = .ok (.iload_n 3, 1) := by decide +kernel
theorem dX3_weight_49 : decode cX3_weight 49 = .ok (.ireturn, 1) := by decide +kernel
theorem dX3_say_0 : decode cX3_say 0 = .ok (.aload_n 0, 1) := by decide +kernel
theorem dX3_say_1 : decode cX3_say 1 = .ok (.getfield 10, 3) := by decide +kernel
theorem dX3_say_4 : decode cX3_say 4 = .ok (.getfield 141, 3) := by decide +kernel
theorem dX3_say_7 : decode cX3_say 7 = .ok (.bipush 9, 2) := by decide +kernel
theorem dX3_say_9 : decode cX3_say 9 = .ok (.if_icmp .lt 10, 3) := by decide +kernel
theorem dX3_say_12 : decode cX3_say 12 = .ok (.aload_n 0, 1) := by decide +kernel
theorem dX3_say_13 : decode cX3_say 13 = .ok (.bipush (-6), 2) := by decide +kernel
theorem dX3_say_15 : decode cX3_say 15 = .ok (.invokevirtual 51, 3) := by decide +kernel
theorem dX3_say_18 : decode cX3_say 18 = .ok (.ireturn, 1) := by decide +kernel
theorem dX3_say_19 : decode cX3_say 19 = .ok (.aload_n 0, 1) := by decide +kernel
theorem dX3_say_20 : decode cX3_say 20 = .ok (.getfield 10, 3) := by decide +kernel
theorem dX3_say_23 : decode cX3_say 23 = .ok (.dup, 1) := by decide +kernel
theorem dX3_say_24 : decode cX3_say 24 = .ok (.getfield 141, 3) := by decide +kernel
theorem dX3_say_27 : decode cX3_say 27 = .ok (.iconst 1, 1) := by decide +kernel
theorem dX3_say_28 : decode cX3_say 28 = .ok (.iadd, 1) := by decide +kernel
theorem dX3_say_29 : decode cX3_say 29 = .ok (.putfield 141, 3) := by decide +kernel
theorem dX3_say_32 : decode cX3_say 32 = .ok (.aload_n 0, 1) := by decide +kernel
theorem dX3_say_33 : decode cX3_say 33 = .ok (.getfield 10, 3) := by decide +kernel
theorem dX3_say_36 : decode cX3_say 36 = .ok (.getfield 141, 3) := by decide +kernel
theorem dX3_say_39 : decode cX3_say 39 = .ok (.ireturn, 1) := by decide +kernel
theorem dX3_unsay_0 : decode cX3_unsay 0 = .ok (.iload_n 1, 1) := by decide +kernel
theorem dX3_unsay_1 : decode cX3_unsay 1 = .ok (.iconst 0, 1) := by decide +kernel
theorem dX3_unsay_2 : decode cX3_unsay 2 = .ok (.bipush 9, 2) := by decide +kernel
theorem dX3_unsay_4 : decode cX3_unsay 4 = .ok (.invokestatic 47, 3) := by decide +kernel
theorem dX3_unsay_7 : decode cX3_unsay 7 = .ok (.ifCond .ne 10, 3) := by decide +kernel
theorem dX3_unsay_10 : decode cX3_unsay 10 = .ok (.aload_n 0, 1) := by decide +kernel
theorem dX3_unsay_11 : decode cX3_unsay 11 = .ok (.bipush (-2), 2) := by decide +kernel
theorem dX3_unsay_13 : decode cX3_unsay 13 = .ok (.invokevirtual 51, 3) := by decide +kernel
theorem dX3_unsay_16 : decode cX3_unsay 16 = .ok (.ireturn, 1) := by decide +kernel
theorem dX3_unsay_17 : decode cX3_unsay 17 = .ok (.aload_n 0, 1) := by decide +kernel
theorem dX3_unsay_18 : decode cX3_unsay 18 = .ok (.getfield 10, 3) := by decide +kernel
theorem dX3_unsay_21 : decode cX3_unsay 21 = .ok (.getfield 141, 3) := by decide +kernel
theorem dX3_unsay_24 : decode cX3_unsay 24 = .ok (.istore_n 2, 1) := by decide +kernel
theorem dX3_unsay_25 : decode cX3_unsay 25 = .ok (.aload_n 0, 1) := by decide +kernel
theorem dX3_unsay_26 : decode cX3_unsay 26 = .ok (.getfield 10, 3) := by decide +kernel
theorem dX3_unsay_29 : decode cX3_unsay 29 = .ok (.iload_n 1, 1) := by decide +kernel
theorem dX3_unsay_30 : decode cX3_unsay 30 = .ok (.putfield 141, 3) := by decide +kernel
theorem dX3_unsay_33 : decode cX3_unsay 33 = .ok (.iload_n 2, 1) := by decide +kernel
theorem dX3_unsay_34 : decode cX3_unsay 34 = .ok (.ireturn, 1) := by decide +kernel
theorem dX3_hint_0 : decode cX3_hint 0 = .ok (.iload_n 1, 1) := by decide +kernel
theorem dX3_hint_1 : decode cX3_hint 1 = .ok (.aload_n 0, 1) := by decide +kernel
theorem dX3_hint_2 : decode cX3_hint 2 = .ok (.getfield 10, 3) := by decide +kernel
theorem dX3_hint_5 : decode cX3_hint 5 = .ok (.invokevirtual 144, 3) := by decide +kernel
theorem dX3_hint_8 : decode cX3_hint 8 = .ok (.iconst (-1), 1) := by decide +kernel
theorem dX3_hint_9 : decode cX3_hint 9 = .ok (.ixor, 1) := by decide +kernel
theorem dX3_hint_10 : decode cX3_hint 10 = .ok (.iand, 1) := by decide +kernel
theorem dX3_hint_11 : decode cX3_hint 11 = .ok (.ifCond .eq 10, 3) := by decide +kernel
theorem dX3_hint_14 : decode cX3_hint 14 = .ok (.aload_n 0, 1) := by decide +kernel
theorem dX3_hint_15 : decode cX3_hint 15 = .ok (.bipush (-2), 2) := by decide +kernel
theorem dX3_hint_17 : decode cX3_hint 17 = .ok (.invokevirtual 51, 3) := by decide +kernel
theorem dX3_hint_20 : decode cX3_hint 20 = .ok (.ireturn, 1) := by decide +kernel
theorem dX3_hint_21 : decode cX3_hint 21 = .ok (.aload_n 0, 1) := by decide +kernel
theorem dX3_hint_22 : decode cX3_hint 22 = .ok (.getfield 10, 3) := by decide +kernel
theorem dX3_hint_25 : decode cX3_hint 25 = .ok (.aload_n 0, 1) := by decide +kernel
theorem dX3_hint_26 : decode cX3_hint 26 = .ok (.getfield 10, 3) := by decide +kernel
theorem dX3_hint_29 : decode cX3_hint 29 = .ok (.getfield 135, 3) := by decide +kernel
theorem dX3_hint_32 : decode cX3_hint 32 = .ok (.iload_n 1, 1) := by decide +kernel
theorem dX3_hint_33 : decode cX3_hint 33 = .ok (.iand, 1) := by decide +kernel
theorem dX3_hint_34 : decode cX3_hint 34 = .ok (.putfield 135, 3) := by decide +kernel
theorem dX3_hint_37 : decode cX3_hint 37 = .ok (.aload_n 0, 1) := by decide +kernel
theorem dX3_hint_38 : decode cX3_hint 38 = .ok (.getfield 10, 3) := by decide +kernel
theorem dX3_hint_41 : decode cX3_hint 41 = .ok (.getfield 135, 3) := by decide +kernel
theorem dX3_hint_44 : decode cX3_hint 44 = .ok (.invokestatic 148, 3) := by decide +kernel
theorem dX3_hint_47 : decode cX3_hint 47 = .ok (.ireturn, 1) := by decide +kernel
theorem dX3_learn_0 : decode cX3_learn 0 = .ok (.aload_n 0, 1) := by decide +kernel
theorem dX3_learn_1 : decode cX3_learn 1 = .ok (.getfield 10, 3) := by decide +kernel
theorem dX3_learn_4 : decode cX3_learn 4 = .ok (.iload_n 1, 1) := by decide +kernel
theorem dX3_learn_5 : decode cX3_learn 5 = .ok (.invokevirtual 94, 3) := by decide +kernel
theorem dX3_learn_8 : decode cX3_learn 8 = .ok (.ifCond .eq 13, 3) := by decide +kernel
theorem dX3_learn_11 : decode cX3_learn 11 = .ok (.iload_n 2, 1) := by decide +kernel
theorem dX3_learn_12 : decode cX3_learn 12 = .ok (.iconst 0, 1) := by decide +kernel
theorem dX3_learn_13 : decode cX3_learn 13 = .ok (.bipush 9, 2) := by decide +kernel
theorem dX3_learn_15 : decode cX3_learn 15 = .ok (.invokestatic 47, 3) := by decide +kernel
theorem dX3_learn_18 : decode cX3_learn 18 = .ok (.ifCond .ne 10, 3) := by decide +kernel
theorem dX3_learn_21 : decode cX3_learn 21 = .ok (.aload_n 0, 1) := by decide +kernel
theorem dX3_learn_22 : decode cX3_learn 22 = .ok (.bipush (-2), 2) := by decide +kernel
theorem dX3_learn_24 : decode cX3_learn 24 = .ok (.invokevirtual 51, 3) := by decide +kernel
theorem dX3_learn_27 : decode cX3_learn 27 = .ok (.ireturn, 1) := by decide +kernel
theorem dX3_learn_28 : decode cX3_learn 28 = .ok (.aload_n 0, 1) := by decide +kernel
theorem dX3_learn_29 : decode cX3_learn 29 = .ok (.getfield 10, 3) := by decide +kernel
theorem dX3_learn_32 : decode cX3_learn 32 = .ok (.getfield 153, 3) := by decide +kernel
theorem dX3_learn_35 : decode cX3_learn 35 = .ok (.iload_n 1, 1) := by decide +kernel
theorem dX3_learn_36 : decode cX3_learn 36 = .ok (.iaload, 1) := by decide +kernel
theorem dX3_learn_37 : decode cX3_learn 37 = .ok (.istore_n 3, 1) := by decide +kernel
theorem dX3_learn_38 : decode cX3_learn 38 = .ok (.aload_n 0, 1) := by decide +kernel
theorem dX3_learn_39 : decode cX3_learn 39 = .ok (.getfield 10, 3) := by decide +kernel
theorem dX3_learn_42 : decode cX3_learn 42 = .ok (.getfield 153, 3) := by decide +kernel
theorem dX3_learn_45 : decode cX3_learn 45 = .ok (.iload_n 1, 1) := by decide +kernel
theorem dX3_learn_46 : decode cX3_learn 46 = .ok (.iload_n 2, 1) := by decide +kernel
theorem dX3_learn_47 : decode cX3_learn 47 = .ok (.iastore, 1) := by decide +kernel
theorem dX3_learn_48 : decode cX3_learn 48 = .ok (.iload_n 3, 1) := by decide +kernel
theorem dX3_learn_49 : decode cX3_learn 49 = .ok (.ireturn, 1) := by decide +kernel
theorem dX3_leave_0 : decode cX3_leave 0 = .ok (.aload_n 0, 1) := by decide +kernel
theorem dX3_leave_1 : decode cX3_leave 1 = .ok (.getfield 10, 3) := by decide +kernel
theorem dX3_leave_4 : decode cX3_leave 4 = .ok (.getfield 123, 3) := by decide +kernel
theorem dX3_leave_7 : decode cX3_leave 7 = .ok (.ifCond .ne 10, 3) := by decide +kernel
theorem dX3_leave_10 : decode cX3_leave 10 = .ok (.aload_n 0, 1) := by decide +kernel
theorem dX3_leave_11 : decode cX3_leave 11 = .ok (.bipush (-5), 2) := by decide +kernel
theorem dX3_leave_13 : decode cX3_leave 13 = .ok (.invokevirtual 51, 3) := by decide +kernel
theorem dX3_leave_16 : decode cX3_leave 16 = .ok (.ireturn, 1) := by decide +kernel
theorem dX3_leave_17 : decode cX3_leave 17 = .ok (.aload_n 0, 1) := by decide +kernel
theorem dX3_leave_18 : decode cX3_leave 18 = .ok (.getfield 10, 3) := by decide +kernel
theorem dX3_leave_21 : decode cX3_leave 21 = .ok (.aload_n 0, 1) := by decide +kernel
theorem dX3_leave_22 : decode cX3_leave 22 = .ok (.getfield 10, 3) := by decide +kernel
theorem dX3_leave_25 : decode cX3_leave 25 = .ok (.getfield 123, 3) := by decide +kernel
theorem dX3_leave_28 : decode cX3_leave 28 = .ok (.iconst 1, 1) := by decide +kernel
theorem dX3_leave_29 : decode cX3_leave 29 = .ok (.isub, 1) := by decide +kernel
theorem dX3_leave_30 : decode cX3_leave 30 = .ok (.invokevirtual 156, 3) := by decide +kernel
theorem dX3_leave_33 : decode cX3_leave 33 = .ok (.aload_n 0, 1) := by decide +kernel
theorem dX3_leave_34 : decode cX3_leave 34 = .ok (.invokevirtual 159, 3) := by decide +kernel
theorem dX3_leave_37 : decode cX3_leave 37 = .ok (.aload_n 0, 1) := by decide +kernel
theorem dX3_leave_38 : decode cX3_leave 38 = .ok (.getfield 10, 3) := by decide +kernel
theorem dX3_leave_41 : decode cX3_leave 41 = .ok (.getfield 123, 3) := by decide +kernel
theorem dX3_leave_44 : decode cX3_leave 44 = .ok (.ireturn, 1) := by decide +kernel
theorem dX3_seed_0 : decode cX3_seed 0 = .ok (.aload_n 0, 1) := by decide +kernel
theorem dX3_seed_1 : decode cX3_seed 1 = .ok (.getfield 10, 3) := by decide +kernel
theorem dX3_seed_4 : decode cX3_seed 4 = .ok (.getfield 162, 3) := by decide +kernel
theorem dX3_seed_7 : decode cX3_seed 7 = .ok (.istore_n 2, 1) := by decide +kernel
theorem dX3_seed_8 : decode cX3_seed 8 = .ok (.aload_n 0, 1) := by decide +kernel
theorem dX3_seed_9 : decode cX3_seed 9 = .ok (.getfield 10, 3) := by decide +kernel
theorem dX3_seed_12 : decode cX3_seed 12 = .ok (.iload_n 1, 1) := by decide +kernel
theorem dX3_seed_13 : decode cX3_seed 13 = .ok (.putfield 162, 3) := by decide +kernel
theorem dX3_seed_16 : decode cX3_seed 16 = .ok (.iload_n 2, 1) := by decide +kernel
theorem dX3_seed_17 : decode cX3_seed 17 = .ok (.ireturn, 1) := by decide +kernel
theorem dX3_image_0 : decode cX3_image 0 = .ok (.aload_n 0, 1) := by decide +kernel
theorem dX3_image_1 : decode cX3_image 1 = .ok (.getfield 19, 3) := by decide +kernel
theorem dX3_image_4 : decode cX3_image 4 = .ok (.aload_n 0, 1) := by decide +kernel
theorem dX3_image_5 : decode cX3_image 5 = .ok (.getfield 10, 3) := by decide +kernel
theorem dX3_image_8 : decode cX3_image 8 = .ok (.invokevirtual 165, 3) := by decide +kernel
theorem dX3_image_11 : decode cX3_image 11 = .ok (.aload_n 0, 1) := by decide +kernel
theorem dX3_image_12 : decode cX3_image 12 = .ok (.iconst 1, 1) := by decide +kernel
theorem dX3_image_13 : decode cX3_image 13 = .ok (.putfield 169, 3) := by decide +kernel
theorem dX3_image_16 : decode cX3_image 16 = .ok (.iconst 1, 1) := by decide +kernel
theorem dX3_image_17 : decode cX3_image 17 = .ok (.ireturn, 1) := by decide +kernel
