theorem dX7_init_0 : decode cX7_init 0 = .ok (.aload_n 0, 1) := by decide +kernel
theorem dX7_init_1 : decode cX7_init 1 = .ok (.invokespecial 1, 3) := by decide +kernel
theorem dX7_init_4 : decode cX7_init 4 = .ok (.aload_n 0, 1) := by decide +kernel
theorem dX7_init_5 : decode cX7_init 5 = .ok (.new 7, 3) := by decide +kernel
theorem dX7_init_8 : decode cX7_init 8 = .ok (.dup, 1) := by decide +kernel
theorem dX7_init_9 : decode cX7_init 9 = .ok (.invokespecial 9, 3) := by decide +kernel
theorem dX7_init_12 : decode cX7_init 12 = .ok (.putfield 10, 3) := by decide +kernel
theorem dX7_init_15 : decode cX7_init 15 = .ok (.aload_n 0, 1) := by decide +kernel
theorem dX7_init_16 : decode cX7_init 16 = .ok (.new 7, 3) := by decide +kernel
theorem dX7_init_19 : decode cX7_init 19 = .ok (.dup, 1) := by decide +kernel
theorem dX7_init_20 : decode cX7_init 20 = .ok (.invokespecial 9, 3) := by decide +kernel
theorem dX7_init_23 : decode cX7_init 23 = .ok (.putfield 16, 3) := by decide +kernel
theorem dX7_init_26 : decode cX7_init 26 = .ok (.aload_n 0, 1) := by decide +kernel
theorem dX7_init_27 : decode cX7_init 27 = .ok (.new 7, 3) := by decide +kernel
theorem dX7_init_30 : decode cX7_init 30 = .ok (.dup, 1) := by decide +kernel
theorem dX7_init_31 : decode cX7_init 31 = .ok (.invokespecial 9, 3) := by decide +kernel
theorem dX7_init_34 : decode cX7_init 34 = .ok (.putfield 19, 3) := by decide +kernel
theorem dX7_init_37 : decode cX7_init 37 = .ok (.aload_n 0, 1) := by decide +kernel
theorem dX7_init_38 : decode cX7_init 38 = .ok (.new 7, 3) := by decide +kernel
theorem dX7_init_41 : decode cX7_init 41 = .ok (.dup, 1) := by decide +kernel
theorem dX7_init_42 : decode cX7_init 42 = .ok (.invokespecial 9, 3) := by decide +kernel
theorem dX7_init_45 : decode cX7_init 45 = .ok (.putfield 22, 3) := by decide +kernel
theorem dX7_init_48 : decode cX7_init 48 = .ok (.aload_n 0, 1) := by decide +kernel
theorem dX7_init_49 : decode cX7_init 49 = .ok (.new 7, 3) := by decide +kernel
theorem dX7_init_52 : decode cX7_init 52 = .ok (.dup, 1) := by decide +kernel
theorem dX7_init_53 : decode cX7_init 53 = .ok (.invokespecial 9, 3) := by decide +kernel
theorem dX7_init_56 : decode cX7_init 56 = .ok (.putfield 25, 3) := by decide +kernel
theorem dX7_init_59 : decode cX7_init 59 = .ok (.aload_n 0, 1) := by decide +kernel
theorem dX7_init_60 : decode cX7_init 60 = .ok (.new 7, 3) := by decide +kernel
theorem dX7_init_63 : decode cX7_init 63 = .ok (.dup, 1) := by decide +kernel
theorem dX7_init_64 : decode cX7_init 64 = .ok (.invokespecial 9, 3) := by decide +kernel
theorem dX7_init_67 : decode cX7_init 67 = .ok (.putfield 28, 3) := by decide +kernel
theorem dX7_init_70 : decode cX7_init 70 = .ok (.aload_n 0, 1) := by decide +kernel
theorem dX7_init_71 : decode cX7_init 71 = .ok (.new 31, 3) := by decide +kernel
theorem dX7_init_74 : decode cX7_init 74 = .ok (.dup, 1) := by decide +kernel
theorem dX7_init_75 : decode cX7_init 75 = .ok (.invokespecial 33, 3) := by decide +kernel
theorem dX7_init_78 : decode cX7_init 78 = .ok (.putfield 34, 3) := by decide +kernel
theorem dX7_init_81 : decode cX7_init 81 = .ok (.aload_n 0, 1) := by decide +kernel
theorem dX7_init_82 : decode cX7_init 82 = .ok (.new 31, 3) := by decide +kernel
theorem dX7_init_85 : decode cX7_init 85 = .ok (.dup, 1) := by decide +kernel
theorem dX7_init_86 : decode cX7_init 86 = .ok (.invokespecial 33, 3) := by decide +kernel
theorem dX7_init_89 : decode cX7_init 89 = .ok (.putfield 38, 3) := by decide +kernel
theorem dX7_init_92 : decode cX7_init 92 = .ok (.aload_n 0, 1) := by decide +kernel
theorem dX7_init_93 : decode cX7_init 93 = .ok (.iconst 0, 1) := by decide +kernel
theorem dX7_init_94 : decode cX7_init 94 = .ok (.putfield 41, 3) := by decide +kernel
theorem dX7_init_97 : decode cX7_init 97 = .ok (.aload_n 0, 1) := by decide +kernel
theorem dX7_init_98 : decode cX7_init 98 = .ok (.iconst 5, 1) := by decide +kernel
theorem dX7_init_99 : decode cX7_init 99 = .ok (.putfield 45, 3) := by decide +kernel
theorem dX7_init_102 : decode cX7_init 102 = .ok (.return_, 1) := by decide +kernel
theorem dX7_addRule_0 : decode cX7_addRule 0 = .ok (.iload_n 1, 1) := by decide +kernel
theorem dX7_addRule_1 : decode cX7_addRule 1 = .ok (.iconst 0, 1) := by decide +kernel
theorem dX7_addRule_2 : decode cX7_addRule 2 = .ok (.bipush 7, 2) := by decide +kernel
theorem dX7_addRule_4 : decode cX7_addRule 4 = .ok (.invokestatic 48, 3) := by decide +kernel
theorem dX7_addRule_7 : decode cX7_addRule 7 = .ok (.iload_n 3, 1) := by decide +kernel
theorem dX7_addRule_8 : decode cX7_addRule 8 = .ok (.iconst 0, 1) := by decide +kernel
theorem dX7_addRule_9 : decode cX7_addRule 9 = .ok (.bipush 9, 2) := by decide +kernel
theorem dX7_addRule_11 : decode cX7_addRule 11 = .ok (.invokestatic 48, 3) := by decide +kernel
theorem dX7_addRule_14 : decode cX7_addRule 14 = .ok (.iload 4, 2) := by decide +kernel
theorem dX7_addRule_16 : decode cX7_addRule 16 = .ok (.iconst 1, 1) := by decide +kernel
theorem dX7_addRule_17 : decode cX7_addRule 17 = .ok (.bipush 60, 2) := by decide +kernel
theorem dX7_addRule_19 : decode cX7_addRule 19 = .ok (.invokestatic 48, 3) := by decide +kernel
theorem dX7_addRule_22 : decode cX7_addRule 22 = .ok (.iload 5, 2) := by decide +kernel
theorem dX7_addRule_24 : decode cX7_addRule 24 = .ok (.aload_n 0, 1) := by decide +kernel
theorem dX7_addRule_25 : decode cX7_addRule 25 = .ok (.getfield 41, 3) := by decide +kernel
theorem dX7_addRule_28 : decode cX7_addRule 28 = .ok (.iconst 1, 1) := by decide +kernel
theorem dX7_addRule_29 : decode cX7_addRule 29 = .ok (.iadd, 1) := by decide +kernel
theorem dX7_addRule_30 : decode cX7_addRule 30 = .ok (.sipush 1000, 3) := by decide +kernel
theorem dX7_addRule_33 : decode cX7_addRule 33 = .ok (.invokestatic 48, 3) := by decide +kernel
theorem dX7_addRule_36 : decode cX7_addRule 36 = .ok (.aload_n 0, 1) := by decide +kernel
theorem dX7_addRule_37 : decode cX7_addRule 37 = .ok (.getfield 10, 3) := by decide +kernel
theorem dX7_addRule_40 : decode cX7_addRule 40 = .ok (.invokevirtual 52, 3) := by decide +kernel
theorem dX7_addRule_43 : decode cX7_addRule 43 = .ok (.bipush 12, 2) := by decide +kernel
theorem dX7_addRule_45 : decode cX7_addRule 45 = .ok (.invokestatic 56, 3) := by decide +kernel
theorem dX7_addRule_48 : decode cX7_addRule 48 = .ok (.aload_n 0, 1) := by decide +kernel
theorem dX7_addRule_49 : decode cX7_addRule 49 = .ok (.getfield 10, 3) := by decide +kernel
theorem dX7_addRule_52 : decode cX7_addRule 52 = .ok (.new 60, 3) := by decide +kernel
theorem dX7_addRule_55 : decode cX7_addRule 55 = .ok (.dup, 1) := by decide +kernel
theorem dX7_addRule_56 : decode cX7_addRule 56 = .ok (.iload_n 1, 1) := by decide +kernel
theorem dX7_addRule_57 : decode cX7_addRule 57 = .ok (.iload_n 2, 1) := by decide +kernel
theorem dX7_addRule_58 : decode cX7_addRule 58 = .ok (.iload_n 3, 1) := by decide +kernel
theorem dX7_addRule_59 : decode cX7_addRule 59 = .ok (.iload 4, 2) := by decide +kernel
theorem dX7_addRule_61 : decode cX7_addRule 61 = .ok (.iload 5, 2) := by decide +kernel
theorem dX7_addRule_63 : decode cX7_addRule 63 = .ok (.invokespecial 62, 3) := by decide +kernel
theorem dX7_addRule_66 : decode cX7_addRule 66 = .ok (.invokevirtual 65, 3) := by decide +kernel
theorem dX7_addRule_69 : decode cX7_addRule 69 = .ok (.pop, 1) := by decide +kernel
theorem dX7_addRule_70 : decode cX7_addRule 70 = .ok (.aload_n 0, 1) := by decide +kernel
theorem dX7_addRule_71 : decode cX7_addRule 71 = .ok (.getfield 10, 3) := by decide +kernel
theorem dX7_addRule_74 : decode cX7_addRule 74 = .ok (.invokevirtual 52, 3) := by decide +kernel
theorem dX7_addRule_77 : decode cX7_addRule 77 = .ok (.iconst 1, 1) := by decide +kernel
theorem dX7_addRule_78 : decode cX7_addRule 78 = .ok (.isub, 1) := by decide +kernel
theorem dX7_addRule_79 : decode cX7_addRule 79 = .ok (.ireturn, 1) := by decide +kernel
theorem dX7_repeal_0 : decode cX7_repeal 0 = .ok (.aload_n 0, 1) := by decide +kernel
theorem dX7_repeal_1 : decode cX7_repeal 1 = .ok (.iload_n 1, 1) := by decide +kernel
theorem dX7_repeal_2 : decode cX7_repeal 2 = .ok (.invokevirtual 69, 3) := by decide +kernel
theorem dX7_repeal_5 : decode cX7_repeal 5 = .ok (.astore_n 3, 1) := by decide +kernel
theorem dX7_repeal_6 : decode cX7_repeal 6 = .ok (.iload_n 2, 1) := by decide +kernel
theorem dX7_repeal_7 : decode cX7_repeal 7 = .ok (.aload_n 0, 1) := by decide +kernel
theorem dX7_repeal_8 : decode cX7_repeal 8 = .ok (.getfield 41, 3) := by decide +kernel
theorem dX7_repeal_11 : decode cX7_repeal 11 = .ok (.aload_n 3, 1) := by decide +kernel
theorem dX7_repeal_12 : decode cX7_repeal 12 = .ok (.getfield 73, 3) := by decide +kernel
theorem dX7_repeal_15 : decode cX7_repeal 15 = .ok (.invokestatic 76, 3) := by decide +kernel
theorem dX7_repeal_18 : decode cX7_repeal 18 = .ok (.iconst 1, 1) := by decide +kernel
theorem dX7_repeal_19 : decode cX7_repeal 19 = .ok (.iadd, 1) := by decide +kernel
theorem dX7_repeal_20 : decode cX7_repeal 20 = .ok (.sipush 1000, 3) := by decide +kernel
theorem dX7_repeal_23 : decode cX7_repeal 23 = .ok (.invokestatic 48, 3) := by decide +kernel
theorem dX7_repeal_26 : decode cX7_repeal 26 = .ok (.aload_n 3, 1) := by decide +kernel
theorem dX7_repeal_27 : decode cX7_repeal 27 = .ok (.invokevirtual 82, 3) := by decide +kernel
theorem dX7_repeal_30 : decode cX7_repeal 30 = .ok (.ifCond .eq 13, 3) := by decide +kernel
theorem dX7_repeal_33 : decode cX7_repeal 33 = .ok (.new 86, 3) := by decide +kernel
theorem dX7_repeal_36 : decode cX7_repeal 36 = .ok (.dup, 1) := by decide +kernel
theorem dX7_repeal_37 : decode cX7_repeal 37 = .ok (.ldc 88, 2) := by decide +kernel
theorem dX7_repeal_39 : decode cX7_repeal 39 = .ok (.invokespecial 90, 3) := by decide +kernel
theorem dX7_repeal_42 : decode cX7_repeal 42 = .ok (.athrow, 1) := by decide +kernel
theorem dX7_repeal_43 : decode cX7_repeal 43 = .ok (.aload_n 3, 1) := by decide +kernel
theorem dX7_repeal_44 : decode cX7_repeal 44 = .ok (.iload_n 2, 1) := by decide +kernel
theorem dX7_repeal_45 : decode cX7_repeal 45 = .ok (.putfield 93, 3) := by decide +kernel
theorem dX7_repeal_48 : decode cX7_repeal 48 = .ok (.aload_n 0, 1) := by decide +kernel
theorem dX7_repeal_49 : decode cX7_repeal 49 = .ok (.iload_n 2, 1) := by decide +kernel
theorem dX7_repeal_50 : decode cX7_repeal 50 = .ok (.invokevirtual 96, 3) := by decide +kernel
theorem dX7_repeal_53 : decode cX7_repeal 53 = .ok (.ireturn, 1) := by decide +kernel
theorem dX7_isInForce_0 : decode cX7_isInForce 0 = .ok (.aload_n 0, 1) := by decide +kernel
theorem dX7_isInForce_1 : decode cX7_isInForce 1 = .ok (.iload_n 1, 1) := by decide +kernel
theorem dX7_isInForce_2 : decode cX7_isInForce 2 = .ok (.invokevirtual 69, 3) := by decide +kernel
theorem dX7_isInForce_5 : decode cX7_isInForce 5 = .ok (.astore_n 3, 1) := by decide +kernel
theorem dX7_isInForce_6 : decode cX7_isInForce 6 = .ok (.iload_n 2, 1) := by decide +kernel
theorem dX7_isInForce_7 : decode cX7_isInForce 7 = .ok (.iconst 0, 1) := by decide +kernel
theorem dX7_isInForce_8 : decode cX7_isInForce 8 = .ok (.sipush 1000, 3) := by decide +kernel
theorem dX7_isInForce_11 : decode cX7_isInForce 11 = .ok (.invokestatic 48, 3) := by decide +kernel
theorem dX7_isInForce_14 : decode cX7_isInForce 14 = .ok (.aload_n 3, 1) := by decide +kernel
theorem dX7_isInForce_15 : decode cX7_isInForce 15 = .ok (.iload_n 2, 1) := by decide +kernel
theorem dX7_isInForce_16 : decode cX7_isInForce 16 = .ok (.invokevirtual 100, 3) := by decide +kernel
theorem dX7_isInForce_19 : decode cX7_isInForce 19 = .ok (.ireturn, 1) := by decide +kernel
theorem dX7_applying_0 : decode cX7_applying 0 = .ok (.aload_n 0, 1) := by decide +kernel
theorem dX7_applying_1 : decode cX7_applying 1 = .ok (.aload_n 0, 1) := by decide +kernel
theorem dX7_applying_2 : decode cX7_applying 2 = .ok (.iload_n 1, 1) := by decide +kernel
theorem dX7_applying_3 : decode cX7_applying 3 = .ok (.invokevirtual 104, 3) := by decide +kernel
theorem dX7_applying_6 : decode cX7_applying 6 = .ok (.invokevirtual 108, 3) := by decide +kernel
theorem dX7_applying_9 : decode cX7_applying 9 = .ok (.istore_n 2, 1) := by decide +kernel
theorem dX7_applying_10 : decode cX7_applying 10 = .ok (.iload_n 2, 1) := by decide +kernel
theorem dX7_applying_11 : decode cX7_applying 11 = .ok (.iconst (-1), 1) := by decide +kernel
theorem dX7_applying_12 : decode cX7_applying 12 = .ok (.if_icmp .ne 13, 3) := by decide +kernel
theorem dX7_applying_15 : decode cX7_applying 15 = .ok (.new 112, 3) := by decide +kernel
theorem dX7_applying_18 : decode cX7_applying 18 = .ok (.dup, 1) := by decide +kernel
theorem dX7_applying_19 : decode cX7_applying 19 = .ok (.ldc 114, 2) := by decide +kernel
theorem dX7_applying_21 : decode cX7_applying 21 = .ok (.invokespecial 116, 3) := by decide +kernel
theorem dX7_applying_24 : decode cX7_applying 24 = .ok (.athrow, 1) := by decide +kernel
theorem dX7_applying_25 : decode cX7_applying 25 = .ok (.iload_n 2, 1) := by decide +kernel
theorem dX7_applying_26 : decode cX7_applying 26 = .ok (.ireturn, 1) := by decide +kernel
theorem dX7_conflicts_0 : decode cX7_conflicts 0 = .ok (.iload_n 1, 1) := by decide +kernel
theorem dX7_conflicts_1 : decode cX7_conflicts 1 = .ok (.iconst 0, 1) := by decide +kernel
theorem dX7_conflicts_2 : decode cX7_conflicts 2 = .ok (.sipush 1000, 3) := by decide +kernel
theorem dX7_conflicts_5 : decode cX7_conflicts 5 = .ok (.invokestatic 48, 3) := by decide +kernel
theorem dX7_conflicts_8 : decode cX7_conflicts 8 = .ok (.iconst 0, 1) := by decide +kernel
theorem dX7_conflicts_9 : decode cX7_conflicts 9 = .ok (.istore_n 2, 1) := by decide +kernel
theorem dX7_conflicts_10 : decode cX7_conflicts 10 = .ok (.iconst 0, 1) := by decide +kernel
theorem dX7_conflicts_11 : decode cX7_conflicts 11 = .ok (.istore_n 3, 1) := by decide +kernel
theorem dX7_conflicts_12 : decode cX7_conflicts 12 = .ok (.iload_n 3, 1) := by decide +kernel
theorem dX7_conflicts_13 : decode cX7_conflicts 13 = .ok (.aload_n 0, 1) := by decide +kernel
theorem dX7_conflicts_14 : decode cX7_conflicts 14 = .ok (.getfield 10, 3) := by decide +kernel
theorem dX7_conflicts_17 : decode cX7_conflicts 17 = .ok (.invokevirtual 52, 3) := by decide +kernel
theorem dX7_conflicts_20 : decode cX7_conflicts 20 = .ok (.if_icmp .ge 57, 3) := by decide +kernel
theorem dX7_conflicts_23 : decode cX7_conflicts 23 = .ok (.iconst 0, 1) := by decide +kernel
theorem dX7_conflicts_24 : decode cX7_conflicts 24 = .ok (.istore 4, 2) := by decide +kernel
theorem dX7_conflicts_26 : decode cX7_conflicts 26 = .ok (.iload 4, 2) := by decide +kernel
theorem dX7_conflicts_28 : decode cX7_conflicts 28 = .ok (.iload_n 3, 1) := by decide +kernel
theorem dX7_conflicts_29 : decode cX7_conflicts 29 = .ok (.if_icmp .ge 42, 3) := by decide +kernel
theorem dX7_conflicts_32 : decode cX7_conflicts 32 = .ok (.aload_n 0, 1) := by decide +kernel
theorem dX7_conflicts_33 : decode cX7_conflicts 33 = .ok (.getfield 10, 3) := by decide +kernel
theorem dX7_conflicts_36 : decode cX7_conflicts 36 = .ok (.iload_n 3, 1) := by decide +kernel
theorem dX7_conflicts_37 : decode cX7_conflicts 37 = .ok (.invokevirtual 117, 3) := by decide +kernel
theorem dX7_conflicts_40 : decode cX7_conflicts 40 = .ok (.checkcast 60, 3) := by decide +kernel
theorem dX7_conflicts_43 : decode cX7_conflicts 43 = .ok (.aload_n 0, 1) := by decide +kernel
theorem dX7_conflicts_44 : decode cX7_conflicts 44 = .ok (.getfield 10, 3) := by decide +kernel
theorem dX7_conflicts_47 : decode cX7_conflicts 47 = .ok (.iload 4, 2) := by decide +kernel
theorem dX7_conflicts_49 : decode cX7_conflicts 49 = .ok (.invokevirtual 117, 3) := by decide +kernel
theorem dX7_conflicts_52 : decode cX7_conflicts 52 = .ok (.checkcast 60, 3) := by decide +kernel
theorem dX7_conflicts_55 : decode cX7_conflicts 55 = .ok (.iload_n 1, 1) := by decide +kernel
theorem dX7_conflicts_56 : decode cX7_conflicts 56 = .ok (.invokestatic 121, 3) := by decide +kernel
theorem dX7_conflicts_59 : decode cX7_conflicts 59 = .ok (.ifCond .eq 6, 3) := by decide +kernel
theorem dX7_conflicts_62 : decode cX7_conflicts 62 = .ok (.iinc 2 1, 3) := by decide +kernel
theorem dX7_conflicts_65 : decode cX7_conflicts 65 = .ok (.iinc 4 1, 3) := by decide +kernel
theorem dX7_conflicts_68 : decode cX7_conflicts 68 = .ok (.goto (-42), 3) := by decide +kernel
theorem dX7_conflicts_71 : decode cX7_conflicts 71 = .ok (.iinc 3 1, 3) := by decide +kernel
theorem dX7_conflicts_74 : decode cX7_conflicts 74 = .ok (.goto (-62), 3) := by decide +kernel
theorem dX7_conflicts_77 : decode cX7_conflicts 77 = .ok (.iload_n 2, 1) := by decide +kernel
theorem dX7_conflicts_78 : decode cX7_conflicts 78 = .ok (.ireturn, 1) := by decide +kernel
theorem dX7_addUser_0 : decode cX7_addUser 0 = .ok (.iload_n 1, 1) := by decide +kernel
theorem dX7_addUser_1 : decode cX7_addUser 1 = .ok (.iconst 1, 1) := by decide +kernel
theorem dX7_addUser_2 : decode cX7_addUser 2 = .ok (.bipush 9, 2) := by decide +kernel
theorem dX7_addUser_4 : decode cX7_addUser 4 = .ok (.invokestatic 48, 3) := by decide +kernel
theorem dX7_addUser_7 : decode cX7_addUser 7 = .ok (.aload_n 0, 1) := by decide +kernel
theorem dX7_addUser_8 : decode cX7_addUser 8 = .ok (.getfield 16, 3) := by decide +kernel
theorem dX7_addUser_11 : decode cX7_addUser 11 = .ok (.invokevirtual 52, 3) := by decide +kernel
theorem dX7_addUser_14 : decode cX7_addUser 14 = .ok (.bipush 8, 2) := by decide +kernel
theorem dX7_addUser_16 : decode cX7_addUser 16 = .ok (.invokestatic 56, 3) := by decide +kernel
theorem dX7_addUser_19 : decode cX7_addUser 19 = .ok (.aload_n 0, 1) := by decide +kernel
theorem dX7_addUser_20 : decode cX7_addUser 20 = .ok (.getfield 16, 3) := by decide +kernel
theorem dX7_addUser_23 : decode cX7_addUser 23 = .ok (.new 125, 3) := by decide +kernel
theorem dX7_addUser_26 : decode cX7_addUser 26 = .ok (.dup, 1) := by decide +kernel
theorem dX7_addUser_27 : decode cX7_addUser 27 = .ok (.iload_n 1, 1) := by decide +kernel
theorem dX7_addUser_28 : decode cX7_addUser 28 = .ok (.invokespecial 127, 3) := by decide +kernel
theorem dX7_addUser_31 : decode cX7_addUser 31 = .ok (.invokevirtual 65, 3) := by decide +kernel
theorem dX7_addUser_34 : decode cX7_addUser 34 = .ok (.pop, 1) := by decide +kernel
theorem dX7_addUser_35 : decode cX7_addUser 35 = .ok (.aload_n 0, 1) := by decide +kernel
theorem dX7_addUser_36 : decode cX7_addUser 36 = .ok (.getfield 16, 3) := by decide +kernel
theorem dX7_addUser_39 : decode cX7_addUser 39 = .ok (.invokevirtual 52, 3) := by decide +kernel
theorem dX7_addUser_42 : decode cX7_addUser 42 = .ok (.iconst 1, 1) := by decide +kernel
theorem dX7_addUser_43 : decode cX7_addUser 43 = .ok (.isub, 1) := by decide +kernel
theorem dX7_addUser_44 : decode cX7_addUser 44 = .ok (.ireturn, 1) := by decide +kernel
theorem dX7_setWeight_0 : decode cX7_setWeight 0 = .ok (.aload_n 0, 1) := by decide +kernel
theorem dX7_setWeight_1 : decode cX7_setWeight 1 = .ok (.iload_n 1, 1) := by decide +kernel
theorem dX7_setWeight_2 : decode cX7_setWeight 2 = .ok (.invokevirtual 130, 3) := by decide +kernel
theorem dX7_setWeight_5 : decode cX7_setWeight 5 = .ok (.astore_n 3, 1) := by decide +kernel
theorem dX7_setWeight_6 : decode cX7_setWeight 6 = .ok (.iload_n 2, 1) := by decide +kernel
theorem dX7_setWeight_7 : decode cX7_setWeight 7 = .ok (.iconst 1, 1) := by decide +kernel
theorem dX7_setWeight_8 : decode cX7_setWeight 8 = .ok (.bipush 9, 2) := by decide +kernel
theorem dX7_setWeight_10 : decode cX7_setWeight 10 = .ok (.invokestatic 48, 3) := by decide +kernel
theorem dX7_setWeight_13 : decode cX7_setWeight 13 = .ok (.aload_n 3, 1) := by decide +kernel
theorem dX7_setWeight_14 : decode cX7_setWeight 14 = .ok (.getfield 134, 3) := by decide +kernel
theorem dX7_setWeight_17 : decode cX7_setWeight 17 = .ok (.istore 4, 2) := by decide +kernel
theorem dX7_setWeight_19 : decode cX7_setWeight 19 = .ok (.aload_n 3, 1) := by decide +kernel
theorem dX7_setWeight_20 : decode cX7_setWeight 20 = .ok (.iload_n 2, 1) := by decide +kernel
theorem dX7_setWeight_21 : decode cX7_setWeight 21 = .ok (.putfield 134, 3) := by decide +kernel
theorem dX7_setWeight_24 : decode cX7_setWeight 24 = .ok (.iload 4, 2) := by decide +kernel
theorem dX7_setWeight_26 : decode cX7_setWeight 26 = .ok (.ireturn, 1) := by decide +kernel
theorem dX7_sanctions_0 : decode cX7_sanctions 0 = .ok (.aload_n 0, 1) := by decide +kernel
theorem dX7_sanctions_1 : decode cX7_sanctions 1 = .ok (.aload_n 0, 1) := by decide +kernel
theorem dX7_sanctions_2 : decode cX7_sanctions 2 = .ok (.iload_n 1, 1) := by decide +kernel
theorem dX7_sanctions_3 : decode cX7_sanctions 3 = .ok (.invokevirtual 130, 3) := by decide +kernel
theorem dX7_sanctions_6 : decode cX7_sanctions 6 = .ok (.invokevirtual 137, 3) := by decide +kernel
theorem dX7_sanctions_9 : decode cX7_sanctions 9 = .ok (.ireturn, 1) := by decide +kernel
theorem dX7_sanctionedUntil_0 : decode cX7_sanctionedUntil 0 = .ok (.aload_n 0, 1) := by decide +kernel
theorem dX7_sanctionedUntil_1 : decode cX7_sanctionedUntil 1 = .ok (.iload_n 1, 1) := by decide +kernel
theorem dX7_sanctionedUntil_2 : decode cX7_sanctionedUntil 2 = .ok (.invokevirtual 130, 3) := by decide +kernel
theorem dX7_sanctionedUntil_5 : decode cX7_sanctionedUntil 5 = .ok (.astore_n 2, 1) := by decide +kernel
theorem dX7_sanctionedUntil_6 : decode cX7_sanctionedUntil 6 = .ok (.aload_n 0, 1) := by decide +kernel
theorem dX7_sanctionedUntil_7 : decode cX7_sanctionedUntil 7 = .ok (.aload_n 2, 1) := by decide +kernel
theorem dX7_sanctionedUntil_8 : decode cX7_sanctionedUntil 8 = .ok (.invokevirtual 137, 3) := by decide +kernel
theorem dX7_sanctionedUntil_11 : decode cX7_sanctionedUntil 11 = .ok (.ifCond .ne 13, 3) := by decide +kernel
theorem dX7_sanctionedUntil_14 : decode cX7_sanctionedUntil 14 = .ok (.new 112, 3) := by decide +kernel
theorem dX7_sanctionedUntil_17 : decode cX7_sanctionedUntil 17 = .ok (.dup, 1) := by decide +kernel
theorem dX7_sanctionedUntil_18 : decode cX7_sanctionedUntil 18 = .ok (.ldc 141, 2) := by decide +kernel
theorem dX7_sanctionedUntil_20 : decode cX7_sanctionedUntil 20 = .ok (.invokespecial 116, 3) := by decide +kernel
theorem dX7_sanctionedUntil_23 : decode cX7_sanctionedUntil 23 = .ok (.athrow, 1) := by decide +kernel
theorem dX7_sanctionedUntil_24 : decode cX7_sanctionedUntil 24 = .ok (.aload_n 0, 1) := by decide +kernel
theorem dX7_sanctionedUntil_25 : decode cX7_sanctionedUntil 25 = .ok (.getfield 41, 3) := by decide +kernel
theorem dX7_sanctionedUntil_28 : decode cX7_sanctionedUntil 28 = .ok (.istore_n 3, 1) := by decide +kernel
theorem dX7_sanctionedUntil_29 : decode cX7_sanctionedUntil 29 = .ok (.iconst 0, 1) := by decide +kernel
theorem dX7_sanctionedUntil_30 : decode cX7_sanctionedUntil 30 = .ok (.istore 4, 2) := by decide +kernel
theorem dX7_sanctionedUntil_32 : decode cX7_sanctionedUntil 32 = .ok (.iload 4, 2) := by decide +kernel
theorem dX7_sanctionedUntil_34 : decode cX7_sanctionedUntil 34 = .ok (.aload_n 0, 1) := by decide +kernel
theorem dX7_sanctionedUntil_35 : decode cX7_sanctionedUntil 35 = .ok (.getfield 25, 3) := by decide +kernel
theorem dX7_sanctionedUntil_38 : decode cX7_sanctionedUntil 38 = .ok (.invokevirtual 52, 3) := by decide +kernel
theorem dX7_sanctionedUntil_41 : decode cX7_sanctionedUntil 41 = .ok (.if_icmp .ge 54, 3) := by decide +kernel
theorem dX7_sanctionedUntil_44 : decode cX7_sanctionedUntil 44 = .ok (.aload_n 0, 1) := by decide +kernel
theorem dX7_sanctionedUntil_45 : decode cX7_sanctionedUntil 45 = .ok (.getfield 25, 3) := by decide +kernel
theorem dX7_sanctionedUntil_48 : decode cX7_sanctionedUntil 48 = .ok (.iload 4, 2) := by decide +kernel
theorem dX7_sanctionedUntil_50 : decode cX7_sanctionedUntil 50 = .ok (.invokevirtual 117, 3) := by decide +kernel
theorem dX7_sanctionedUntil_53 : decode cX7_sanctionedUntil 53 = .ok (.checkcast 143, 3) := by decide +kernel
theorem dX7_sanctionedUntil_56 : decode cX7_sanctionedUntil 56 = .ok (.astore 5, 2) := by decide +kernel
theorem dX7_sanctionedUntil_58 : decode cX7_sanctionedUntil 58 = .ok (.aload 5, 2) := by decide +kernel
theorem dX7_sanctionedUntil_60 : decode cX7_sanctionedUntil 60 = .ok (.getfield 145, 3) := by decide +kernel
theorem dX7_sanctionedUntil_63 : decode cX7_sanctionedUntil 63 = .ok (.aload_n 2, 1) := by decide +kernel
theorem dX7_sanctionedUntil_64 : decode cX7_sanctionedUntil 64 = .ok (.if_acmp .ne 25, 3) := by decide +kernel
theorem dX7_sanctionedUntil_67 : decode cX7_sanctionedUntil 67 = .ok (.aload 5, 2) := by decide +kernel
theorem dX7_sanctionedUntil_69 : decode cX7_sanctionedUntil 69 = .ok (.aload_n 0, 1) := by decide +kernel
theorem dX7_sanctionedUntil_70 : decode cX7_sanctionedUntil 70 = .ok (.getfield 41, 3) := by decide +kernel
theorem dX7_sanctionedUntil_73 : decode cX7_sanctionedUntil 73 = .ok (.invokevirtual 149, 3) := by decide +kernel
theorem dX7_sanctionedUntil_76 : decode cX7_sanctionedUntil 76 = .ok (.ifCond .eq 13, 3) := by decide +kernel
theorem dX7_sanctionedUntil_79 : decode cX7_sanctionedUntil 79 = .ok (.iload_n 3, 1) := by decide +kernel
theorem dX7_sanctionedUntil_80 : decode cX7_sanctionedUntil 80 = .ok (.aload 5, 2) := by decide +kernel
theorem dX7_sanctionedUntil_82 : decode cX7_sanctionedUntil 82 = .ok (.getfield 152, 3) := by decide +kernel
theorem dX7_sanctionedUntil_85 : decode cX7_sanctionedUntil 85 = .ok (.invokestatic 76, 3) := by decide +kernel
theorem dX7_sanctionedUntil_88 : decode cX7_sanctionedUntil 88 = .ok (.istore_n 3, 1) := by decide +kernel
theorem dX7_sanctionedUntil_89 : decode cX7_sanctionedUntil 89 = .ok (.iinc 4 1, 3) := by decide +kernel
theorem dX7_sanctionedUntil_92 : decode cX7_sanctionedUntil 92 = .ok (.goto (-60), 3) := by decide +kernel
theorem dX7_sanctionedUntil_95 : decode cX7_sanctionedUntil 95 = .ok (.iload_n 3, 1) := by decide +kernel
theorem dX7_sanctionedUntil_96 : decode cX7_sanctionedUntil 96 = .ok (.ireturn, 1) := by decide +kernel
theorem dX7_addBot_0 : decode cX7_addBot 0 = .ok (.iload_n 1, 1) := by decide +kernel
theorem dX7_addBot_1 : decode cX7_addBot 1 = .ok (.iconst 0, 1) := by decide +kernel
theorem dX7_addBot_2 : decode cX7_addBot 2 = .ok (.bipush 7, 2) := by decide +kernel
theorem dX7_addBot_4 : decode cX7_addBot 4 = .ok (.invokestatic 48, 3) := by decide +kernel
theorem dX7_addBot_7 : decode cX7_addBot 7 = .ok (.iload_n 2, 1) := by decide +kernel
theorem dX7_addBot_8 : decode cX7_addBot 8 = .ok (.bipush 50, 2) := by decide +kernel
theorem dX7_addBot_10 : decode cX7_addBot 10 = .ok (.bipush 100, 2) := by decide +kernel
theorem dX7_addBot_12 : decode cX7_addBot 12 = .ok (.invokestatic 48, 3) := by decide +kernel
theorem dX7_addBot_15 : decode cX7_addBot 15 = .ok (.aload_n 0, 1) := by decide +kernel
theorem dX7_addBot_16 : decode cX7_addBot 16 = .ok (.getfield 19, 3) := by decide +kernel
theorem dX7_addBot_19 : decode cX7_addBot 19 = .ok (.invokevirtual 52, 3) := by decide +kernel
theorem dX7_addBot_22 : decode cX7_addBot 22 = .ok (.iconst 4, 1) := by decide +kernel
theorem dX7_addBot_23 : decode cX7_addBot 23 = .ok (.invokestatic 56, 3) := by decide +kernel
theorem dX7_addBot_26 : decode cX7_addBot 26 = .ok (.aload_n 0, 1) := by decide +kernel
theorem dX7_addBot_27 : decode cX7_addBot 27 = .ok (.getfield 19, 3) := by decide +kernel
theorem dX7_addBot_30 : decode cX7_addBot 30 = .ok (.new 153, 3) := by decide +kernel
theorem dX7_addBot_33 : decode cX7_addBot 33 = .ok (.dup, 1) := by decide +kernel
theorem dX7_addBot_34 : decode cX7_addBot 34 = .ok (.iload_n 1, 1) := by decide +kernel
theorem dX7_addBot_35 : decode cX7_addBot 35 = .ok (.iload_n 2, 1) := by decide +kernel
theorem dX7_addBot_36 : decode cX7_addBot 36 = .ok (.invokespecial 155, 3) := by decide +kernel
theorem dX7_addBot_39 : decode cX7_addBot 39 = .ok (.invokevirtual 65, 3) := by decide +kernel
theorem dX7_addBot_42 : decode cX7_addBot 42 = .ok (.pop, 1) := by decide +kernel
theorem dX7_addBot_43 : decode cX7_addBot 43 = .ok (.aload_n 0, 1) := by decide +kernel
theorem dX7_addBot_44 : decode cX7_addBot 44 = .ok (.getfield 19, 3) := by decide +kernel
theorem dX7_addBot_47 : decode cX7_addBot 47 = .ok (.invokevirtual 52, 3) := by decide +kernel
theorem dX7_addBot_50 : decode cX7_addBot 50 = .ok (.iconst 1, 1) := by decide +kernel
theorem dX7_addBot_51 : decode cX7_addBot 51 = .ok (.isub, 1) := by decide +kernel
theorem dX7_addBot_52 : decode cX7_addBot 52 = .ok (.ireturn, 1) := by decide +kernel
theorem dX7_threshold_0 : decode cX7_threshold 0 = .ok (.iload_n 1, 1) := by decide +kernel
theorem dX7_threshold_1 : decode cX7_threshold 1 = .ok (.aload_n 0, 1) := by decide +kernel
theorem dX7_threshold_2 : decode cX7_threshold 2 = .ok (.getfield 19, 3) := by decide +kernel
theorem dX7_threshold_5 : decode cX7_threshold 5 = .ok (.invokevirtual 52, 3) := by decide +kernel
theorem dX7_threshold_8 : decode cX7_threshold 8 = .ok (.invokestatic 157, 3) := by decide +kernel
theorem dX7_threshold_11 : decode cX7_threshold 11 = .ok (.aload_n 0, 1) := by decide +kernel
theorem dX7_threshold_12 : decode cX7_threshold 12 = .ok (.getfield 19, 3) := by decide +kernel
theorem dX7_threshold_15 : decode cX7_threshold 15 = .ok (.iload_n 1, 1) := by decide +kernel
theorem dX7_threshold_16 : decode cX7_threshold 16 = .ok (.invokevirtual 117, 3) := by decide +kernel
theorem dX7_threshold_19 : decode cX7_threshold 19 = .ok (.checkcast 153, 3) := by decide +kernel
theorem dX7_threshold_22 : decode cX7_threshold 22 = .ok (.getfield 160, 3) := by decide +kernel
theorem dX7_threshold_25 : decode cX7_threshold 25 = .ok (.ireturn, 1) := by decide +kernel
theorem dX7_file_0 : decode cX7_file 0 = .ok (.aload_n 0, 1) := by decide +kernel
theorem dX7_file_1 : decode cX7_file 1 = .ok (.iload_n 1, 1) := by decide +kernel
theorem dX7_file_2 : decode cX7_file 2 = .ok (.invokevirtual 130, 3) := by decide +kernel
theorem dX7_file_5 : decode cX7_file 5 = .ok (.astore 5, 2) := by decide +kernel
theorem dX7_file_7 : decode cX7_file 7 = .ok (.aload_n 0, 1) := by decide +kernel
theorem dX7_file_8 : decode cX7_file 8 = .ok (.iload_n 2, 1) := by decide +kernel
theorem dX7_file_9 : decode cX7_file 9 = .ok (.invokevirtual 130, 3) := by decide +kernel
theorem dX7_file_12 : decode cX7_file 12 = .ok (.astore 6, 2) := by decide +kernel
theorem dX7_file_14 : decode cX7_file 14 = .ok (.iload_n 1, 1) := by decide +kernel
theorem dX7_file_15 : decode cX7_file 15 = .ok (.iload_n 2, 1) := by decide +kernel
theorem dX7_file_16 : decode cX7_file 16 = .ok (.if_icmp .ne 13, 3) := by decide +kernel
theorem dX7_file_19 : decode cX7_file 19 = .ok (.new 163, 3) := by decide +kernel
theorem dX7_file_22 : decode cX7_file 22 = .ok (.dup, 1) := by decide +kernel
theorem dX7_file_23 : decode cX7_file 23 = .ok (.ldc 165, 2) := by decide +kernel
theorem dX7_file_25 : decode cX7_file 25 = .ok (.invokespecial 167, 3) := by decide +kernel
theorem dX7_file_28 : decode cX7_file 28 = .ok (.athrow, 1) := by decide +kernel
theorem dX7_file_29 : decode cX7_file 29 = .ok (.iload_n 3, 1) := by decide +kernel
theorem dX7_file_30 : decode cX7_file 30 = .ok (.iconst 1, 1) := by decide +kernel
theorem dX7_file_31 : decode cX7_file 31 = .ok (.sipush 255, 3) := by decide +kernel
theorem dX7_file_34 : decode cX7_file 34 = .ok (.invokestatic 48, 3) := by decide +kernel
theorem dX7_file_37 : decode cX7_file 37 = .ok (.iload 4, 2) := by decide +kernel
theorem dX7_file_39 : decode cX7_file 39 = .ok (.iconst 0, 1) := by decide +kernel
theorem dX7_file_40 : decode cX7_file 40 = .ok (.bipush 100, 2) := by decide +kernel
theorem dX7_file_42 : decode cX7_file 42 = .ok (.invokestatic 48, 3) := by decide +kernel
theorem dX7_file_45 : decode cX7_file 45 = .ok (.aload_n 0, 1) := by decide +kernel
theorem dX7_file_46 : decode cX7_file 46 = .ok (.getfield 22, 3) := by decide +kernel
theorem dX7_file_49 : decode cX7_file 49 = .ok (.invokevirtual 52, 3) := by decide +kernel
theorem dX7_file_52 : decode cX7_file 52 = .ok (.bipush 20, 2) := by decide +kernel
theorem dX7_file_54 : decode cX7_file 54 = .ok (.invokestatic 56, 3) := by decide +kernel
theorem dX7_file_57 : decode cX7_file 57 = .ok (.aload_n 0, 1) := by decide +kernel
theorem dX7_file_58 : decode cX7_file 58 = .ok (.getfield 22, 3) := by decide +kernel
theorem dX7_file_61 : decode cX7_file 61 = .ok (.invokevirtual 52, 3) := by decide +kernel
theorem dX7_file_64 : decode cX7_file 64 = .ok (.istore 7, 2) := by decide +kernel
theorem dX7_file_66 : decode cX7_file 66 = .ok (.new 168, 3) := by decide +kernel
theorem dX7_file_69 : decode cX7_file 69 = .ok (.dup, 1) := by decide +kernel
theorem dX7_file_70 : decode cX7_file 70 = .ok (.iload 7, 2) := by decide +kernel
theorem dX7_file_72 : decode cX7_file 72 = .ok (.aload 5, 2) := by decide +kernel
theorem dX7_file_74 : decode cX7_file 74 = .ok (.aload 6, 2) := by decide +kernel
theorem dX7_file_76 : decode cX7_file 76 = .ok (.iload_n 3, 1) := by decide +kernel
theorem dX7_file_77 : decode cX7_file 77 = .ok (.iload 4, 2) := by decide +kernel
theorem dX7_file_79 : decode cX7_file 79 = .ok (.aload_n 0, 1) := by decide +kernel
theorem dX7_file_80 : decode cX7_file 80 = .ok (.getfield 41, 3) := by decide +kernel
theorem dX7_file_83 : decode cX7_file 83 = .ok (.invokespecial 170, 3) := by decide +kernel
theorem dX7_file_86 : decode cX7_file 86 = .ok (.astore 8, 2) := by decide +kernel
theorem dX7_file_88 : decode cX7_file 88 = .ok (.aload_n 0, 1) := by decide +kernel
theorem dX7_file_89 : decode cX7_file 89 = .ok (.getfield 22, 3) := by decide +kernel
theorem dX7_file_92 : decode cX7_file 92 = .ok (.aload 8, 2) := by decide +kernel
theorem dX7_file_94 : decode cX7_file 94 = .ok (.invokevirtual 65, 3) := by decide +kernel
theorem dX7_file_97 : decode cX7_file 97 = .ok (.pop, 1) := by decide +kernel
theorem dX7_file_98 : decode cX7_file 98 = .ok (.aload 8, 2) := by decide +kernel
theorem dX7_file_100 : decode cX7_file 100 = .ok (.aload_n 0, 1) := by decide +kernel
theorem dX7_file_101 : decode cX7_file 101 = .ok (.aload 8, 2) := by decide +kernel
theorem dX7_file_103 : decode cX7_file 103 = .ok (.invokevirtual 173, 3) := by decide +kernel
theorem dX7_file_106 : decode cX7_file 106 = .ok (.putfield 177, 3) := by decide +kernel
theorem dX7_file_109 : decode cX7_file 109 = .ok (.aload 8, 2) := by decide +kernel
theorem dX7_file_111 : decode cX7_file 111 = .ok (.getfield 177, 3) := by decide +kernel
theorem dX7_file_114 : decode cX7_file 114 = .ok (.ifnull 16, 3) := by decide +kernel
theorem dX7_file_117 : decode cX7_file 117 = .ok (.aload_n 0, 1) := by decide +kernel
theorem dX7_file_118 : decode cX7_file 118 = .ok (.aload 8, 2) := by decide +kernel
theorem dX7_file_120 : decode cX7_file 120 = .ok (.iload 4, 2) := by decide +kernel
theorem dX7_file_122 : decode cX7_file 122 = .ok (.bipush 10, 2) := by decide +kernel
theorem dX7_file_124 : decode cX7_file 124 = .ok (.idiv, 1) := by decide +kernel
theorem dX7_file_125 : decode cX7_file 125 = .ok (.iconst 0, 1) := by decide +kernel
theorem dX7_file_126 : decode cX7_file 126 = .ok (.invokevirtual 181, 3) := by decide +kernel
theorem dX7_file_129 : decode cX7_file 129 = .ok (.pop, 1) := by decide +kernel
theorem dX7_file_130 : decode cX7_file 130 = .ok (.iload 7, 2) := by decide +kernel
theorem dX7_file_132 : decode cX7_file 132 = .ok (.ireturn, 1) := by decide +kernel
theorem dX7_state_0 : decode cX7_state 0 = .ok (.aload_n 0, 1) := by decide +kernel
theorem dX7_state_1 : decode cX7_state 1 = .ok (.iload_n 1, 1) := by decide +kernel
theorem dX7_state_2 : decode cX7_state 2 = .ok (.invokevirtual 104, 3) := by decide +kernel
theorem dX7_state_5 : decode cX7_state 5 = .ok (.getfield 185, 3) := by decide +kernel
theorem dX7_state_8 : decode cX7_state 8 = .ok (.ireturn, 1) := by decide +kernel
theorem dX7_vote_0 : decode cX7_vote 0 = .ok (.aload_n 0, 1) := by decide +kernel
theorem dX7_vote_1 : decode cX7_vote 1 = .ok (.iload_n 1, 1) := by decide +kernel
theorem dX7_vote_2 : decode cX7_vote 2 = .ok (.invokevirtual 104, 3) := by decide +kernel
theorem dX7_vote_5 : decode cX7_vote 5 = .ok (.astore 4, 2) := by decide +kernel
theorem dX7_vote_7 : decode cX7_vote 7 = .ok (.aload_n 0, 1) := by decide +kernel
theorem dX7_vote_8 : decode cX7_vote 8 = .ok (.iload_n 2, 1) := by decide +kernel
theorem dX7_vote_9 : decode cX7_vote 9 = .ok (.invokevirtual 130, 3) := by decide +kernel
theorem dX7_vote_12 : decode cX7_vote 12 = .ok (.astore 5, 2) := by decide +kernel
theorem dX7_vote_14 : decode cX7_vote 14 = .ok (.aload 4, 2) := by decide +kernel
theorem dX7_vote_16 : decode cX7_vote 16 = .ok (.invokestatic 189, 3) := by decide +kernel
theorem dX7_vote_19 : decode cX7_vote 19 = .ok (.aload 5, 2) := by decide +kernel
theorem dX7_vote_21 : decode cX7_vote 21 = .ok (.aload 4, 2) := by decide +kernel
theorem dX7_vote_23 : decode cX7_vote 23 = .ok (.getfield 193, 3) := by decide +kernel
theorem dX7_vote_26 : decode cX7_vote 26 = .ok (.if_acmp .eq 13, 3) := by decide +kernel
theorem dX7_vote_29 : decode cX7_vote 29 = .ok (.aload 5, 2) := by decide +kernel
theorem dX7_vote_31 : decode cX7_vote 31 = .ok (.aload 4, 2) := by decide +kernel
theorem dX7_vote_33 : decode cX7_vote 33 = .ok (.getfield 196, 3) := by decide +kernel
theorem dX7_vote_36 : decode cX7_vote 36 = .ok (.if_acmp .ne 13, 3) := by decide +kernel
theorem dX7_vote_39 : decode cX7_vote 39 = .ok (.new 199, 3) := by decide +kernel
theorem dX7_vote_42 : decode cX7_vote 42 = .ok (.dup, 1) := by decide +kernel
theorem dX7_vote_43 : decode cX7_vote 43 = .ok (.ldc 201, 2) := by decide +kernel
theorem dX7_vote_45 : decode cX7_vote 45 = .ok (.invokespecial 203, 3) := by decide +kernel
theorem dX7_vote_48 : decode cX7_vote 48 = .ok (.athrow, 1) := by decide +kernel
theorem dX7_vote_49 : decode cX7_vote 49 = .ok (.aload_n 0, 1) := by decide +kernel
theorem dX7_vote_50 : decode cX7_vote 50 = .ok (.aload 5, 2) := by decide +kernel
theorem dX7_vote_52 : decode cX7_vote 52 = .ok (.invokevirtual 137, 3) := by decide +kernel
theorem dX7_vote_55 : decode cX7_vote 55 = .ok (.ifCond .le 13, 3) := by decide +kernel
theorem dX7_vote_58 : decode cX7_vote 58 = .ok (.new 199, 3) := by decide +kernel
theorem dX7_vote_61 : decode cX7_vote 61 = .ok (.dup, 1) := by decide +kernel
theorem dX7_vote_62 : decode cX7_vote 62 = .ok (.ldc 204, 2) := by decide +kernel
theorem dX7_vote_64 : decode cX7_vote 64 = .ok (.invokespecial 203, 3) := by decide +kernel
theorem dX7_vote_67 : decode cX7_vote 67 = .ok (.athrow, 1) := by decide +kernel
theorem dX7_vote_68 : decode cX7_vote 68 = .ok (.aload 4, 2) := by decide +kernel
theorem dX7_vote_70 : decode cX7_vote 70 = .ok (.iload_n 2, 1) := by decide +kernel
theorem dX7_vote_71 : decode cX7_vote 71 = .ok (.iload_n 3, 1) := by decide +kernel
theorem dX7_vote_72 : decode cX7_vote 72 = .ok (.ifCond .eq 11, 3) := by decide +kernel
theorem dX7_vote_75 : decode cX7_vote 75 = .ok (.aload 5, 2) := by decide +kernel
theorem dX7_vote_77 : decode cX7_vote 77 = .ok (.getfield 134, 3) := by decide +kernel
theorem dX7_vote_80 : decode cX7_vote 80 = .ok (.goto 9, 3) := by decide +kernel
theorem dX7_vote_83 : decode cX7_vote 83 = .ok (.aload 5, 2) := by decide +kernel
theorem dX7_vote_85 : decode cX7_vote 85 = .ok (.getfield 134, 3) := by decide +kernel
theorem dX7_vote_88 : decode cX7_vote 88 = .ok (.ineg, 1) := by decide +kernel
theorem dX7_vote_89 : decode cX7_vote 89 = .ok (.invokevirtual 206, 3) := by decide +kernel
theorem dX7_vote_92 : decode cX7_vote 92 = .ok (.aload 4, 2) := by decide +kernel
theorem dX7_vote_94 : decode cX7_vote 94 = .ok (.invokevirtual 209, 3) := by decide +kernel
theorem dX7_vote_97 : decode cX7_vote 97 = .ok (.aload 4, 2) := by decide +kernel
theorem dX7_vote_99 : decode cX7_vote 99 = .ok (.invokevirtual 212, 3) := by decide +kernel
theorem dX7_vote_102 : decode cX7_vote 102 = .ok (.iadd, 1) := by decide +kernel
theorem dX7_vote_103 : decode cX7_vote 103 = .ok (.ireturn, 1) := by decide +kernel
theorem dX7_weightFor_0 : decode cX7_weightFor 0 = .ok (.aload_n 0, 1) := by decide +kernel
theorem dX7_weightFor_1 : decode cX7_weightFor 1 = .ok (.iload_n 1, 1) := by decide +kernel
theorem dX7_weightFor_2 : decode cX7_weightFor 2 = .ok (.invokevirtual 104, 3) := by decide +kernel
theorem dX7_weightFor_5 : decode cX7_weightFor 5 = .ok (.invokevirtual 209, 3) := by decide +kernel
theorem dX7_weightFor_8 : decode cX7_weightFor 8 = .ok (.ireturn, 1) := by decide +kernel
theorem dX7_weightAgainst_0 : decode cX7_weightAgainst 0 = .ok (.aload_n 0, 1) := by decide +kernel
theorem dX7_weightAgainst_1 : decode cX7_weightAgainst 1 = .ok (.iload_n 1, 1) := by decide +kernel
theorem dX7_weightAgainst_2 : decode cX7_weightAgainst 2 = .ok (.invokevirtual 104, 3) := by decide +kernel
theorem dX7_weightAgainst_5 : decode cX7_weightAgainst 5 = .ok (.invokevirtual 212, 3) := by decide +kernel
theorem dX7_weightAgainst_8 : decode cX7_weightAgainst 8 = .ok (.ireturn, 1) := by decide +kernel
theorem dX7_setQuorum_0 : decode cX7_setQuorum 0 = .ok (.iload_n 1, 1) := by decide +kernel
theorem dX7_setQuorum_1 : decode cX7_setQuorum 1 = .ok (.iconst 1, 1) := by decide +kernel
theorem dX7_setQuorum_2 : decode cX7_setQuorum 2 = .ok (.bipush 50, 2) := by decide +kernel
theorem dX7_setQuorum_4 : decode cX7_setQuorum 4 = .ok (.invokestatic 48, 3) := by decide +kernel
theorem dX7_setQuorum_7 : decode cX7_setQuorum 7 = .ok (.aload_n 0, 1) := by decide +kernel
theorem dX7_setQuorum_8 : decode cX7_setQuorum 8 = .ok (.getfield 45, 3) := by decide +kernel
theorem dX7_setQuorum_11 : decode cX7_setQuorum 11 = .ok (.istore_n 2, 1) := by decide +kernel
theorem dX7_setQuorum_12 : decode cX7_setQuorum 12 = .ok (.aload_n 0, 1) := by decide +kernel
theorem dX7_setQuorum_13 : decode cX7_setQuorum 13 = .ok (.iload_n 1, 1) := by decide +kernel
theorem dX7_setQuorum_14 : decode cX7_setQuorum 14 = .ok (.putfield 45, 3) := by decide +kernel
theorem dX7_setQuorum_17 : decode cX7_setQuorum 17 = .ok (.iload_n 2, 1) := by decide +kernel
theorem dX7_setQuorum_18 : decode cX7_setQuorum 18 = .ok (.ireturn, 1) := by decide +kernel
theorem dX7_precedent_0 : decode cX7_precedent 0 = .ok (.aload_n 0, 1) := by decide +kernel
theorem dX7_precedent_1 : decode cX7_precedent 1 = .ok (.aload_n 0, 1) := by decide +kernel
theorem dX7_precedent_2 : decode cX7_precedent 2 = .ok (.iload_n 1, 1) := by decide +kernel
theorem dX7_precedent_3 : decode cX7_precedent 3 = .ok (.invokevirtual 104, 3) := by decide +kernel
theorem dX7_precedent_6 : decode cX7_precedent 6 = .ok (.aload_n 0, 1) := by decide +kernel
theorem dX7_precedent_7 : decode cX7_precedent 7 = .ok (.getfield 34, 3) := by decide +kernel
theorem dX7_precedent_10 : decode cX7_precedent 10 = .ok (.invokevirtual 215, 3) := by decide +kernel
theorem dX7_precedent_13 : decode cX7_precedent 13 = .ok (.istore_n 2, 1) := by decide +kernel
theorem dX7_precedent_14 : decode cX7_precedent 14 = .ok (.iload_n 2, 1) := by decide +kernel
theorem dX7_precedent_15 : decode cX7_precedent 15 = .ok (.iconst (-1), 1) := by decide +kernel
theorem dX7_precedent_16 : decode cX7_precedent 16 = .ok (.if_icmp .ne 13, 3) := by decide +kernel
theorem dX7_precedent_19 : decode cX7_precedent 19 = .ok (.new 112, 3) := by decide +kernel
theorem dX7_precedent_22 : decode cX7_precedent 22 = .ok (.dup, 1) := by decide +kernel
theorem dX7_precedent_23 : decode cX7_precedent 23 = .ok (.ldc 219, 2) := by decide +kernel
theorem dX7_precedent_25 : decode cX7_precedent 25 = .ok (.invokespecial 116, 3) := by decide +kernel
theorem dX7_precedent_28 : decode cX7_precedent 28 = .ok (.athrow, 1) := by decide +kernel
theorem dX7_precedent_29 : decode cX7_precedent 29 = .ok (.iload_n 2, 1) := by decide +kernel
theorem dX7_precedent_30 : decode cX7_precedent 30 = .ok (.ireturn, 1) := by decide +kernel
theorem dX7_decide_0 : decode cX7_decide 0 = .ok (.aload_n 0, 1) := by decide +kernel
theorem dX7_decide_1 : decode cX7_decide 1 = .ok (.iload_n 1, 1) := by decide +kernel
theorem dX7_decide_2 : decode cX7_decide 2 = .ok (.invokevirtual 104, 3) := by decide +kernel
theorem dX7_decide_5 : decode cX7_decide 5 = .ok (.astore_n 2, 1) := by decide +kernel
theorem dX7_decide_6 : decode cX7_decide 6 = .ok (.aload_n 2, 1) := by decide +kernel
theorem dX7_decide_7 : decode cX7_decide 7 = .ok (.invokestatic 189, 3) := by decide +kernel
theorem dX7_decide_10 : decode cX7_decide 10 = .ok (.aload_n 2, 1) := by decide +kernel
theorem dX7_decide_11 : decode cX7_decide 11 = .ok (.invokevirtual 209, 3) := by decide +kernel
theorem dX7_decide_14 : decode cX7_decide 14 = .ok (.istore_n 3, 1) := by decide +kernel
theorem dX7_decide_15 : decode cX7_decide 15 = .ok (.aload_n 2, 1) := by decide +kernel
theorem dX7_decide_16 : decode cX7_decide 16 = .ok (.invokevirtual 212, 3) := by decide +kernel
theorem dX7_decide_19 : decode cX7_decide 19 = .ok (.istore 4, 2) := by decide +kernel
theorem dX7_decide_21 : decode cX7_decide 21 = .ok (.iload_n 3, 1) := by decide +kernel
theorem dX7_decide_22 : decode cX7_decide 22 = .ok (.iload 4, 2) := by decide +kernel
theorem dX7_decide_24 : decode cX7_decide 24 = .ok (.iadd, 1) := by decide +kernel
theorem dX7_decide_25 : decode cX7_decide 25 = .ok (.aload_n 0, 1) := by decide +kernel
theorem dX7_decide_26 : decode cX7_decide 26 = .ok (.getfield 45, 3) := by decide +kernel
theorem dX7_decide_29 : decode cX7_decide 29 = .ok (.if_icmp .ge 13, 3) := by decide +kernel
theorem dX7_decide_32 : decode cX7_decide 32 = .ok (.new 199, 3) := by decide +kernel
theorem dX7_decide_35 : decode cX7_decide 35 = .ok (.dup, 1) := by decide +kernel
theorem dX7_decide_36 : decode cX7_decide 36 = .ok (.ldc 221, 2) := by decide +kernel
theorem dX7_decide_38 : decode cX7_decide 38 = .ok (.invokespecial 203, 3) := by decide +kernel
theorem dX7_decide_41 : decode cX7_decide 41 = .ok (.athrow, 1) := by decide +kernel
theorem dX7_decide_42 : decode cX7_decide 42 = .ok (.aload_n 2, 1) := by decide +kernel
theorem dX7_decide_43 : decode cX7_decide 43 = .ok (.getfield 185, 3) := by decide +kernel
theorem dX7_decide_46 : decode cX7_decide 46 = .ok (.bipush 101, 2) := by decide +kernel
theorem dX7_decide_48 : decode cX7_decide 48 = .ok (.if_icmp .ne 7, 3) := by decide +kernel
theorem dX7_decide_51 : decode cX7_decide 51 = .ok (.iconst 1, 1) := by decide +kernel
theorem dX7_decide_52 : decode cX7_decide 52 = .ok (.goto 4, 3) := by decide +kernel
theorem dX7_decide_55 : decode cX7_decide 55 = .ok (.iconst 0, 1) := by decide +kernel
theorem dX7_decide_56 : decode cX7_decide 56 = .ok (.istore 5, 2) := by decide +kernel
theorem dX7_decide_58 : decode cX7_decide 58 = .ok (.aload_n 0, 1) := by decide +kernel
theorem dX7_decide_59 : decode cX7_decide 59 = .ok (.aload_n 2, 1) := by decide +kernel
theorem dX7_decide_60 : decode cX7_decide 60 = .ok (.iload_n 3, 1) := by decide +kernel
theorem dX7_decide_61 : decode cX7_decide 61 = .ok (.iload 4, 2) := by decide +kernel
theorem dX7_decide_63 : decode cX7_decide 63 = .ok (.invokevirtual 181, 3) := by decide +kernel
theorem dX7_decide_66 : decode cX7_decide 66 = .ok (.istore 6, 2) := by decide +kernel
theorem dX7_decide_68 : decode cX7_decide 68 = .ok (.iload 5, 2) := by decide +kernel
theorem dX7_decide_70 : decode cX7_decide 70 = .ok (.ifCond .eq 9, 3) := by decide +kernel
theorem dX7_decide_73 : decode cX7_decide 73 = .ok (.aload_n 2, 1) := by decide +kernel
theorem dX7_decide_74 : decode cX7_decide 74 = .ok (.iload 6, 2) := by decide +kernel
theorem dX7_decide_76 : decode cX7_decide 76 = .ok (.invokestatic 223, 3) := by decide +kernel
theorem dX7_decide_79 : decode cX7_decide 79 = .ok (.iload 6, 2) := by decide +kernel
theorem dX7_decide_81 : decode cX7_decide 81 = .ok (.ireturn, 1) := by decide +kernel
theorem dX7_outcome_0 : decode cX7_outcome 0 = .ok (.aload_n 0, 1) := by decide +kernel
theorem dX7_outcome_1 : decode cX7_outcome 1 = .ok (.iload_n 1, 1) := by decide +kernel
theorem dX7_outcome_2 : decode cX7_outcome 2 = .ok (.invokevirtual 104, 3) := by decide +kernel
theorem dX7_outcome_5 : decode cX7_outcome 5 = .ok (.invokestatic 227, 3) := by decide +kernel
theorem dX7_outcome_8 : decode cX7_outcome 8 = .ok (.aload_n 0, 1) := by decide +kernel
theorem dX7_outcome_9 : decode cX7_outcome 9 = .ok (.getfield 34, 3) := by decide +kernel
theorem dX7_outcome_12 : decode cX7_outcome 12 = .ok (.iload_n 1, 1) := by decide +kernel
theorem dX7_outcome_13 : decode cX7_outcome 13 = .ok (.invokevirtual 230, 3) := by decide +kernel
theorem dX7_outcome_16 : decode cX7_outcome 16 = .ok (.ireturn, 1) := by decide +kernel
theorem dX7_outcomeAnew_0 : decode cX7_outcomeAnew 0 = .ok (.aload_n 0, 1) := by decide +kernel
theorem dX7_outcomeAnew_1 : decode cX7_outcomeAnew 1 = .ok (.iload_n 1, 1) := by decide +kernel
theorem dX7_outcomeAnew_2 : decode cX7_outcomeAnew 2 = .ok (.invokevirtual 104, 3) := by decide +kernel
theorem dX7_outcomeAnew_5 : decode cX7_outcomeAnew 5 = .ok (.invokestatic 227, 3) := by decide +kernel
theorem dX7_outcomeAnew_8 : decode cX7_outcomeAnew 8 = .ok (.aload_n 0, 1) := by decide +kernel
theorem dX7_outcomeAnew_9 : decode cX7_outcomeAnew 9 = .ok (.invokevirtual 234, 3) := by decide +kernel
theorem dX7_outcomeAnew_12 : decode cX7_outcomeAnew 12 = .ok (.aload_n 0, 1) := by decide +kernel
theorem dX7_outcomeAnew_13 : decode cX7_outcomeAnew 13 = .ok (.getfield 38, 3) := by decide +kernel
theorem dX7_outcomeAnew_16 : decode cX7_outcomeAnew 16 = .ok (.iload_n 1, 1) := by decide +kernel
theorem dX7_outcomeAnew_17 : decode cX7_outcomeAnew 17 = .ok (.invokevirtual 230, 3) := by decide +kernel
theorem dX7_outcomeAnew_20 : decode cX7_outcomeAnew 20 = .ok (.ireturn, 1) := by decide +kernel
theorem dX7_isByBot_0 : decode cX7_isByBot 0 = .ok (.aload_n 0, 1) := by decide +kernel
theorem dX7_isByBot_1 : decode cX7_isByBot 1 = .ok (.iload_n 1, 1) := by decide +kernel
theorem dX7_isByBot_2 : decode cX7_isByBot 2 = .ok (.invokevirtual 104, 3) := by decide +kernel
theorem dX7_isByBot_5 : decode cX7_isByBot 5 = .ok (.astore_n 2, 1) := by decide +kernel
theorem dX7_isByBot_6 : decode cX7_isByBot 6 = .ok (.aload_n 2, 1) := by decide +kernel
theorem dX7_isByBot_7 : decode cX7_isByBot 7 = .ok (.invokestatic 227, 3) := by decide +kernel
theorem dX7_isByBot_10 : decode cX7_isByBot 10 = .ok (.aload_n 2, 1) := by decide +kernel
theorem dX7_isByBot_11 : decode cX7_isByBot 11 = .ok (.invokevirtual 237, 3) := by decide +kernel
theorem dX7_isByBot_14 : decode cX7_isByBot 14 = .ok (.ireturn, 1) := by decide +kernel
theorem dX7_appeal_0 : decode cX7_appeal 0 = .ok (.aload_n 0, 1) := by decide +kernel
theorem dX7_appeal_1 : decode cX7_appeal 1 = .ok (.iload_n 1, 1) := by decide +kernel
theorem dX7_appeal_2 : decode cX7_appeal 2 = .ok (.invokevirtual 104, 3) := by decide +kernel
theorem dX7_appeal_5 : decode cX7_appeal 5 = .ok (.astore_n 2, 1) := by decide +kernel
theorem dX7_appeal_6 : decode cX7_appeal 6 = .ok (.aload_n 2, 1) := by decide +kernel
theorem dX7_appeal_7 : decode cX7_appeal 7 = .ok (.getfield 185, 3) := by decide +kernel
theorem dX7_appeal_10 : decode cX7_appeal 10 = .ok (.bipush 100, 2) := by decide +kernel
theorem dX7_appeal_12 : decode cX7_appeal 12 = .ok (.if_icmp .eq 13, 3) := by decide +kernel
theorem dX7_appeal_15 : decode cX7_appeal 15 = .ok (.new 86, 3) := by decide +kernel
theorem dX7_appeal_18 : decode cX7_appeal 18 = .ok (.dup, 1) := by decide +kernel
theorem dX7_appeal_19 : decode cX7_appeal 19 = .ok (.ldc 240, 2) := by decide +kernel
theorem dX7_appeal_21 : decode cX7_appeal 21 = .ok (.invokespecial 90, 3) := by decide +kernel
theorem dX7_appeal_24 : decode cX7_appeal 24 = .ok (.athrow, 1) := by decide +kernel
theorem dX7_appeal_25 : decode cX7_appeal 25 = .ok (.aload_n 2, 1) := by decide +kernel
theorem dX7_appeal_26 : decode cX7_appeal 26 = .ok (.getfield 242, 3) := by decide +kernel
theorem dX7_appeal_29 : decode cX7_appeal 29 = .ok (.ifCond .eq 13, 3) := by decide +kernel
theorem dX7_appeal_32 : decode cX7_appeal 32 = .ok (.new 199, 3) := by decide +kernel
theorem dX7_appeal_35 : decode cX7_appeal 35 = .ok (.dup, 1) := by decide +kernel
theorem dX7_appeal_36 : decode cX7_appeal 36 = .ok (.ldc 246, 2) := by decide +kernel
theorem dX7_appeal_38 : decode cX7_appeal 38 = .ok (.invokespecial 203, 3) := by decide +kernel
theorem dX7_appeal_41 : decode cX7_appeal 41 = .ok (.athrow, 1) := by decide +kernel
theorem dX7_appeal_42 : decode cX7_appeal 42 = .ok (.aload_n 2, 1) := by decide +kernel
theorem dX7_appeal_43 : decode cX7_appeal 43 = .ok (.iconst 1, 1) := by decide +kernel
theorem dX7_appeal_44 : decode cX7_appeal 44 = .ok (.putfield 242, 3) := by decide +kernel
theorem dX7_appeal_47 : decode cX7_appeal 47 = .ok (.aload_n 2, 1) := by decide +kernel
theorem dX7_appeal_48 : decode cX7_appeal 48 = .ok (.bipush 101, 2) := by decide +kernel
theorem dX7_appeal_50 : decode cX7_appeal 50 = .ok (.putfield 185, 3) := by decide +kernel
theorem dX7_appeal_53 : decode cX7_appeal 53 = .ok (.aload_n 2, 1) := by decide +kernel
theorem dX7_appeal_54 : decode cX7_appeal 54 = .ok (.aload_n 0, 1) := by decide +kernel
theorem dX7_appeal_55 : decode cX7_appeal 55 = .ok (.getfield 34, 3) := by decide +kernel
theorem dX7_appeal_58 : decode cX7_appeal 58 = .ok (.iload_n 1, 1) := by decide +kernel
theorem dX7_appeal_59 : decode cX7_appeal 59 = .ok (.invokevirtual 230, 3) := by decide +kernel
theorem dX7_appeal_62 : decode cX7_appeal 62 = .ok (.putfield 248, 3) := by decide +kernel
theorem dX7_appeal_65 : decode cX7_appeal 65 = .ok (.aload_n 0, 1) := by decide +kernel
theorem dX7_appeal_66 : decode cX7_appeal 66 = .ok (.getfield 34, 3) := by decide +kernel
theorem dX7_appeal_69 : decode cX7_appeal 69 = .ok (.iload_n 1, 1) := by decide +kernel
theorem dX7_appeal_70 : decode cX7_appeal 70 = .ok (.invokevirtual 251, 3) := by decide +kernel
theorem dX7_appeal_73 : decode cX7_appeal 73 = .ok (.aload_n 0, 1) := by decide +kernel
theorem dX7_appeal_74 : decode cX7_appeal 74 = .ok (.getfield 28, 3) := by decide +kernel
theorem dX7_appeal_77 : decode cX7_appeal 77 = .ok (.new 254, 3) := by decide +kernel
theorem dX7_appeal_80 : decode cX7_appeal 80 = .ok (.dup, 1) := by decide +kernel
theorem dX7_appeal_81 : decode cX7_appeal 81 = .ok (.aload_n 2, 1) := by decide +kernel
theorem dX7_appeal_82 : decode cX7_appeal 82 = .ok (.iconst 1, 1) := by decide +kernel
theorem dX7_appeal_83 : decode cX7_appeal 83 = .ok (.iconst 0, 1) := by decide +kernel
theorem dX7_appeal_84 : decode cX7_appeal 84 = .ok (.iconst 0, 1) := by decide +kernel
theorem dX7_appeal_85 : decode cX7_appeal 85 = .ok (.invokespecial 256, 3) := by decide +kernel
theorem dX7_appeal_88 : decode cX7_appeal 88 = .ok (.invokevirtual 65, 3) := by decide +kernel
theorem dX7_appeal_91 : decode cX7_appeal 91 = .ok (.pop, 1) := by decide +kernel
theorem dX7_appeal_92 : decode cX7_appeal 92 = .ok (.aload_n 2, 1) := by decide +kernel
theorem dX7_appeal_93 : decode cX7_appeal 93 = .ok (.getfield 259, 3) := by decide +kernel
theorem dX7_appeal_96 : decode cX7_appeal 96 = .ok (.ifnull 14, 3) := by decide +kernel
theorem dX7_appeal_99 : decode cX7_appeal 99 = .ok (.aload_n 2, 1) := by decide +kernel
theorem dX7_appeal_100 : decode cX7_appeal 100 = .ok (.getfield 259, 3) := by decide +kernel
theorem dX7_appeal_103 : decode cX7_appeal 103 = .ok (.aload_n 0, 1) := by decide +kernel
theorem dX7_appeal_104 : decode cX7_appeal 104 = .ok (.getfield 41, 3) := by decide +kernel
theorem dX7_appeal_107 : decode cX7_appeal 107 = .ok (.invokevirtual 263, 3) := by decide +kernel
theorem dX7_appeal_110 : decode cX7_appeal 110 = .ok (.aload_n 0, 1) := by decide +kernel
theorem dX7_appeal_111 : decode cX7_appeal 111 = .ok (.bipush 101, 2) := by decide +kernel
theorem dX7_appeal_113 : decode cX7_appeal 113 = .ok (.invokevirtual 266, 3) := by decide +kernel
theorem dX7_appeal_116 : decode cX7_appeal 116 = .ok (.ireturn, 1) := by decide +kernel
theorem dX7_wasReversed_0 : decode cX7_wasReversed 0 = .ok (.aload_n 0, 1) := by decide +kernel
theorem dX7_wasReversed_1 : decode cX7_wasReversed 1 = .ok (.iload_n 1, 1) := by decide +kernel
theorem dX7_wasReversed_2 : decode cX7_wasReversed 2 = .ok (.invokevirtual 104, 3) := by decide +kernel
theorem dX7_wasReversed_5 : decode cX7_wasReversed 5 = .ok (.getfield 270, 3) := by decide +kernel
theorem dX7_wasReversed_8 : decode cX7_wasReversed 8 = .ok (.ireturn, 1) := by decide +kernel
theorem dX7_today_0 : decode cX7_today 0 = .ok (.aload_n 0, 1) := by decide +kernel
theorem dX7_today_1 : decode cX7_today 1 = .ok (.getfield 41, 3) := by decide +kernel
theorem dX7_today_4 : decode cX7_today 4 = .ok (.ireturn, 1) := by decide +kernel
theorem dX7_pass_0 : decode cX7_pass 0 = .ok (.iload_n 1, 1) := by decide +kernel
theorem dX7_pass_1 : decode cX7_pass 1 = .ok (.iconst 1, 1) := by decide +kernel
theorem dX7_pass_2 : decode cX7_pass 2 = .ok (.bipush 100, 2) := by decide +kernel
theorem dX7_pass_4 : decode cX7_pass 4 = .ok (.invokestatic 48, 3) := by decide +kernel
theorem dX7_pass_7 : decode cX7_pass 7 = .ok (.aload_n 0, 1) := by decide +kernel
theorem dX7_pass_8 : decode cX7_pass 8 = .ok (.getfield 41, 3) := by decide +kernel
theorem dX7_pass_11 : decode cX7_pass 11 = .ok (.iload_n 1, 1) := by decide +kernel
theorem dX7_pass_12 : decode cX7_pass 12 = .ok (.iadd, 1) := by decide +kernel
theorem dX7_pass_13 : decode cX7_pass 13 = .ok (.sipush 1000, 3) := by decide +kernel
theorem dX7_pass_16 : decode cX7_pass 16 = .ok (.if_icmp .le 14, 3) := by decide +kernel
theorem dX7_pass_19 : decode cX7_pass 19 = .ok (.new 86, 3) := by decide +kernel
theorem dX7_pass_22 : decode cX7_pass 22 = .ok (.dup, 1) := by decide +kernel
theorem dX7_pass_23 : decode cX7_pass 23 = .ok (.ldc_w 273, 3) := by decide +kernel
theorem dX7_pass_26 : decode cX7_pass 26 = .ok (.invokespecial 90, 3) := by decide +kernel
theorem dX7_pass_29 : decode cX7_pass 29 = .ok (.athrow, 1) := by decide +kernel
theorem dX7_pass_30 : decode cX7_pass 30 = .ok (.aload_n 0, 1) := by decide +kernel
theorem dX7_pass_31 : decode cX7_pass 31 = .ok (.getfield 41, 3) := by decide +kernel
theorem dX7_pass_34 : decode cX7_pass 34 = .ok (.istore_n 2, 1) := by decide +kernel
theorem dX7_pass_35 : decode cX7_pass 35 = .ok (.aload_n 0, 1) := by decide +kernel
theorem dX7_pass_36 : decode cX7_pass 36 = .ok (.dup, 1) := by decide +kernel
theorem dX7_pass_37 : decode cX7_pass 37 = .ok (.getfield 41, 3) := by decide +kernel
theorem dX7_pass_40 : decode cX7_pass 40 = .ok (.iload_n 1, 1) := by decide +kernel
theorem dX7_pass_41 : decode cX7_pass 41 = .ok (.iadd, 1) := by decide +kernel
theorem dX7_pass_42 : decode cX7_pass 42 = .ok (.putfield 41, 3) := by decide +kernel
theorem dX7_pass_45 : decode cX7_pass 45 = .ok (.iconst 0, 1) := by decide +kernel
theorem dX7_pass_46 : decode cX7_pass 46 = .ok (.istore_n 3, 1) := by decide +kernel
theorem dX7_pass_47 : decode cX7_pass 47 = .ok (.iconst 0, 1) := by decide +kernel
theorem dX7_pass_48 : decode cX7_pass 48 = .ok (.istore 4, 2) := by decide +kernel
theorem dX7_pass_50 : decode cX7_pass 50 = .ok (.iload 4, 2) := by decide +kernel
theorem dX7_pass_52 : decode cX7_pass 52 = .ok (.aload_n 0, 1) := by decide +kernel
theorem dX7_pass_53 : decode cX7_pass 53 = .ok (.getfield 25, 3) := by decide +kernel
theorem dX7_pass_56 : decode cX7_pass 56 = .ok (.invokevirtual 52, 3) := by decide +kernel
theorem dX7_pass_59 : decode cX7_pass 59 = .ok (.if_icmp .ge 47, 3) := by decide +kernel
theorem dX7_pass_62 : decode cX7_pass 62 = .ok (.aload_n 0, 1) := by decide +kernel
theorem dX7_pass_63 : decode cX7_pass 63 = .ok (.getfield 25, 3) := by decide +kernel
theorem dX7_pass_66 : decode cX7_pass 66 = .ok (.iload 4, 2) := by decide +kernel
theorem dX7_pass_68 : decode cX7_pass 68 = .ok (.invokevirtual 117, 3) := by decide +kernel
theorem dX7_pass_71 : decode cX7_pass 71 = .ok (.checkcast 143, 3) := by decide +kernel
theorem dX7_pass_74 : decode cX7_pass 74 = .ok (.astore 5, 2) := by decide +kernel
theorem dX7_pass_76 : decode cX7_pass 76 = .ok (.aload 5, 2) := by decide +kernel
theorem dX7_pass_78 : decode cX7_pass 78 = .ok (.iload_n 2, 1) := by decide +kernel
theorem dX7_pass_79 : decode cX7_pass 79 = .ok (.invokevirtual 149, 3) := by decide +kernel
theorem dX7_pass_82 : decode cX7_pass 82 = .ok (.ifCond .eq 18, 3) := by decide +kernel
theorem dX7_pass_85 : decode cX7_pass 85 = .ok (.aload 5, 2) := by decide +kernel
theorem dX7_pass_87 : decode cX7_pass 87 = .ok (.aload_n 0, 1) := by decide +kernel
theorem dX7_pass_88 : decode cX7_pass 88 = .ok (.getfield 41, 3) := by decide +kernel
theorem dX7_pass_91 : decode cX7_pass 91 = .ok (.invokevirtual 149, 3) := by decide +kernel
theorem dX7_pass_94 : decode cX7_pass 94 = .ok (.ifCond .ne 6, 3) := by decide +kernel
theorem dX7_pass_97 : decode cX7_pass 97 = .ok (.iinc 3 1, 3) := by decide +kernel
theorem dX7_pass_100 : decode cX7_pass 100 = .ok (.iinc 4 1, 3) := by decide +kernel
theorem dX7_pass_103 : decode cX7_pass 103 = .ok (.goto (-53), 3) := by decide +kernel
theorem dX7_pass_106 : decode cX7_pass 106 = .ok (.iload_n 3, 1) := by decide +kernel
theorem dX7_pass_107 : decode cX7_pass 107 = .ok (.ireturn, 1) := by decide +kernel
theorem dX7_decisions_0 : decode cX7_decisions 0 = .ok (.aload_n 0, 1) := by decide +kernel
theorem dX7_decisions_1 : decode cX7_decisions 1 = .ok (.getfield 34, 3) := by decide +kernel
theorem dX7_decisions_4 : decode cX7_decisions 4 = .ok (.getfield 275, 3) := by decide +kernel
theorem dX7_decisions_7 : decode cX7_decisions 7 = .ok (.ireturn, 1) := by decide +kernel
theorem dX7_likeness_0 : decode cX7_likeness 0 = .ok (.aload_n 0, 1) := by decide +kernel
theorem dX7_likeness_1 : decode cX7_likeness 1 = .ok (.iload_n 1, 1) := by decide +kernel
theorem dX7_likeness_2 : decode cX7_likeness 2 = .ok (.invokevirtual 104, 3) := by decide +kernel
theorem dX7_likeness_5 : decode cX7_likeness 5 = .ok (.aload_n 0, 1) := by decide +kernel
theorem dX7_likeness_6 : decode cX7_likeness 6 = .ok (.iload_n 2, 1) := by decide +kernel
theorem dX7_likeness_7 : decode cX7_likeness 7 = .ok (.invokevirtual 104, 3) := by decide +kernel
theorem dX7_likeness_10 : decode cX7_likeness 10 = .ok (.invokestatic 278, 3) := by decide +kernel
theorem dX7_likeness_13 : decode cX7_likeness 13 = .ok (.ireturn, 1) := by decide +kernel
theorem dX7_count_0 : decode cX7_count 0 = .ok (.iload_n 1, 1) := by decide +kernel
theorem dX7_count_1 : decode cX7_count 1 = .ok (.bipush 111, 2) := by decide +kernel
theorem dX7_count_3 : decode cX7_count 3 = .ok (.if_icmp .ne 10, 3) := by decide +kernel
theorem dX7_count_6 : decode cX7_count 6 = .ok (.aload_n 0, 1) := by decide +kernel
theorem dX7_count_7 : decode cX7_count 7 = .ok (.bipush 111, 2) := by decide +kernel
theorem dX7_count_9 : decode cX7_count 9 = .ok (.invokevirtual 266, 3) := by decide +kernel
theorem dX7_count_12 : decode cX7_count 12 = .ok (.ireturn, 1) := by decide +kernel
theorem dX7_count_13 : decode cX7_count 13 = .ok (.iload_n 1, 1) := by decide +kernel
theorem dX7_count_14 : decode cX7_count 14 = .ok (.bipush 103, 2) := by decide +kernel
theorem dX7_count_16 : decode cX7_count 16 = .ok (.if_icmp .ne 8, 3) := by decide +kernel
theorem dX7_count_19 : decode cX7_count 19 = .ok (.aload_n 0, 1) := by decide +kernel
theorem dX7_count_20 : decode cX7_count 20 = .ok (.invokevirtual 282, 3) := by decide +kernel
theorem dX7_count_23 : decode cX7_count 23 = .ok (.ireturn, 1) := by decide +kernel
theorem dX7_count_24 : decode cX7_count 24 = .ok (.iload_n 1, 1) := by decide +kernel
theorem dX7_count_25 : decode cX7_count 25 = .ok (.bipush 98, 2) := by decide +kernel
theorem dX7_count_27 : decode cX7_count 27 = .ok (.if_icmp .ne 8, 3) := by decide +kernel
theorem dX7_count_30 : decode cX7_count 30 = .ok (.aload_n 0, 1) := by decide +kernel
theorem dX7_count_31 : decode cX7_count 31 = .ok (.invokevirtual 285, 3) := by decide +kernel
theorem dX7_count_34 : decode cX7_count 34 = .ok (.ireturn, 1) := by decide +kernel
theorem dX7_count_35 : decode cX7_count 35 = .ok (.iload_n 1, 1) := by decide +kernel
theorem dX7_count_36 : decode cX7_count 36 = .ok (.bipush 114, 2) := by decide +kernel
theorem dX7_count_38 : decode cX7_count 38 = .ok (.if_icmp .ne 8, 3) := by decide +kernel
theorem dX7_count_41 : decode cX7_count 41 = .ok (.aload_n 0, 1) := by decide +kernel
theorem dX7_count_42 : decode cX7_count 42 = .ok (.invokevirtual 288, 3) := by decide +kernel
theorem dX7_count_45 : decode cX7_count 45 = .ok (.ireturn, 1) := by decide +kernel
theorem dX7_count_46 : decode cX7_count 46 = .ok (.new 163, 3) := by decide +kernel
theorem dX7_count_49 : decode cX7_count 49 = .ok (.dup, 1) := by decide +kernel
theorem dX7_count_50 : decode cX7_count 50 = .ok (.ldc_w 291, 3) := by decide +kernel
theorem dX7_count_53 : decode cX7_count 53 = .ok (.invokespecial 167, 3) := by decide +kernel
theorem dX7_count_56 : decode cX7_count 56 = .ok (.athrow, 1) := by decide +kernel
theorem dX7_meanEvidence_0 : decode cX7_meanEvidence 0 = .ok (.aload_n 0, 1) := by decide +kernel
theorem dX7_meanEvidence_1 : decode cX7_meanEvidence 1 = .ok (.invokevirtual 282, 3) := by decide +kernel
theorem dX7_meanEvidence_4 : decode cX7_meanEvidence 4 = .ok (.istore_n 1, 1) := by decide +kernel
theorem dX7_meanEvidence_5 : decode cX7_meanEvidence 5 = .ok (.iload_n 1, 1) := by decide +kernel
theorem dX7_meanEvidence_6 : decode cX7_meanEvidence 6 = .ok (.ifCond .ne 14, 3) := by decide +kernel
theorem dX7_meanEvidence_9 : decode cX7_meanEvidence 9 = .ok (.new 293, 3) := by decide +kernel
theorem dX7_meanEvidence_12 : decode cX7_meanEvidence 12 = .ok (.dup, 1) := by decide +kernel
theorem dX7_meanEvidence_13 : decode cX7_meanEvidence 13 = .ok (.ldc_w 295, 3) := by decide +kernel
theorem dX7_meanEvidence_16 : decode cX7_meanEvidence 16 = .ok (.invokespecial 297, 3) := by decide +kernel
theorem dX7_meanEvidence_19 : decode cX7_meanEvidence 19 = .ok (.athrow, 1) := by decide +kernel
theorem dX7_meanEvidence_20 : decode cX7_meanEvidence 20 = .ok (.iconst 0, 1) := by decide +kernel
theorem dX7_meanEvidence_21 : decode cX7_meanEvidence 21 = .ok (.istore_n 2, 1) := by decide +kernel
theorem dX7_meanEvidence_22 : decode cX7_meanEvidence 22 = .ok (.iconst 0, 1) := by decide +kernel
theorem dX7_meanEvidence_23 : decode cX7_meanEvidence 23 = .ok (.istore_n 3, 1) := by decide +kernel
theorem dX7_meanEvidence_24 : decode cX7_meanEvidence 24 = .ok (.iload_n 3, 1) := by decide +kernel
theorem dX7_meanEvidence_25 : decode cX7_meanEvidence 25 = .ok (.aload_n 0, 1) := by decide +kernel
theorem dX7_meanEvidence_26 : decode cX7_meanEvidence 26 = .ok (.getfield 22, 3) := by decide +kernel
theorem dX7_meanEvidence_29 : decode cX7_meanEvidence 29 = .ok (.invokevirtual 52, 3) := by decide +kernel
theorem dX7_meanEvidence_32 : decode cX7_meanEvidence 32 = .ok (.if_icmp .ge 39, 3) := by decide +kernel
theorem dX7_meanEvidence_35 : decode cX7_meanEvidence 35 = .ok (.aload_n 0, 1) := by decide +kernel
theorem dX7_meanEvidence_36 : decode cX7_meanEvidence 36 = .ok (.getfield 34, 3) := by decide +kernel
theorem dX7_meanEvidence_39 : decode cX7_meanEvidence 39 = .ok (.iload_n 3, 1) := by decide +kernel
theorem dX7_meanEvidence_40 : decode cX7_meanEvidence 40 = .ok (.invokevirtual 230, 3) := by decide +kernel
theorem dX7_meanEvidence_43 : decode cX7_meanEvidence 43 = .ok (.bipush 103, 2) := by decide +kernel
theorem dX7_meanEvidence_45 : decode cX7_meanEvidence 45 = .ok (.if_icmp .ne 20, 3) := by decide +kernel
theorem dX7_meanEvidence_48 : decode cX7_meanEvidence 48 = .ok (.iload_n 2, 1) := by decide +kernel
theorem dX7_meanEvidence_49 : decode cX7_meanEvidence 49 = .ok (.aload_n 0, 1) := by decide +kernel
theorem dX7_meanEvidence_50 : decode cX7_meanEvidence 50 = .ok (.getfield 22, 3) := by decide +kernel
theorem dX7_meanEvidence_53 : decode cX7_meanEvidence 53 = .ok (.iload_n 3, 1) := by decide +kernel
theorem dX7_meanEvidence_54 : decode cX7_meanEvidence 54 = .ok (.invokevirtual 117, 3) := by decide +kernel
theorem dX7_meanEvidence_57 : decode cX7_meanEvidence 57 = .ok (.checkcast 168, 3) := by decide +kernel
theorem dX7_meanEvidence_60 : decode cX7_meanEvidence 60 = .ok (.getfield 298, 3) := by decide +kernel
theorem dX7_meanEvidence_63 : decode cX7_meanEvidence 63 = .ok (.iadd, 1) := by decide +kernel
theorem dX7_meanEvidence_64 : decode cX7_meanEvidence 64 = .ok (.istore_n 2, 1) := by decide +kernel
theorem dX7_meanEvidence_65 : decode cX7_meanEvidence 65 = .ok (.iinc 3 1, 3) := by decide +kernel
theorem dX7_meanEvidence_68 : decode cX7_meanEvidence 68 = .ok (.goto (-44), 3) := by decide +kernel
theorem dX7_meanEvidence_71 : decode cX7_meanEvidence 71 = .ok (.iload_n 2, 1) := by decide +kernel
theorem dX7_meanEvidence_72 : decode cX7_meanEvidence 72 = .ok (.i2d, 1) := by decide +kernel
theorem dX7_meanEvidence_73 : decode cX7_meanEvidence 73 = .ok (.iload_n 1, 1) := by decide +kernel
theorem dX7_meanEvidence_74 : decode cX7_meanEvidence 74 = .ok (.i2d, 1) := by decide +kernel
theorem dX7_meanEvidence_75 : decode cX7_meanEvidence 75 = .ok (.ddiv, 1) := by decide +kernel
theorem dX7_meanEvidence_76 : decode cX7_meanEvidence 76 = .ok (.dreturn, 1) := by decide +kernel
theorem dX7_reversedShare_0 : decode cX7_reversedShare 0 = .ok (.iconst 0, 1) := by decide +kernel
theorem dX7_reversedShare_1 : decode cX7_reversedShare 1 = .ok (.istore_n 1, 1) := by decide +kernel
theorem dX7_reversedShare_2 : decode cX7_reversedShare 2 = .ok (.iconst 0, 1) := by decide +kernel
theorem dX7_reversedShare_3 : decode cX7_reversedShare 3 = .ok (.istore_n 2, 1) := by decide +kernel
theorem dX7_reversedShare_4 : decode cX7_reversedShare 4 = .ok (.iload_n 2, 1) := by decide +kernel
theorem dX7_reversedShare_5 : decode cX7_reversedShare 5 = .ok (.aload_n 0, 1) := by decide +kernel
theorem dX7_reversedShare_6 : decode cX7_reversedShare 6 = .ok (.getfield 22, 3) := by decide +kernel
theorem dX7_reversedShare_9 : decode cX7_reversedShare 9 = .ok (.invokevirtual 52, 3) := by decide +kernel
theorem dX7_reversedShare_12 : decode cX7_reversedShare 12 = .ok (.if_icmp .ge 29, 3) := by decide +kernel
theorem dX7_reversedShare_15 : decode cX7_reversedShare 15 = .ok (.aload_n 0, 1) := by decide +kernel
theorem dX7_reversedShare_16 : decode cX7_reversedShare 16 = .ok (.getfield 22, 3) := by decide +kernel
theorem dX7_reversedShare_19 : decode cX7_reversedShare 19 = .ok (.iload_n 2, 1) := by decide +kernel
theorem dX7_reversedShare_20 : decode cX7_reversedShare 20 = .ok (.invokevirtual 117, 3) := by decide +kernel
theorem dX7_reversedShare_23 : decode cX7_reversedShare 23 = .ok (.checkcast 168, 3) := by decide +kernel
theorem dX7_reversedShare_26 : decode cX7_reversedShare 26 = .ok (.invokevirtual 301, 3) := by decide +kernel
theorem dX7_reversedShare_29 : decode cX7_reversedShare 29 = .ok (.ifCond .eq 6, 3) := by decide +kernel
theorem dX7_reversedShare_32 : decode cX7_reversedShare 32 = .ok (.iinc 1 1, 3) := by decide +kernel
theorem dX7_reversedShare_35 : decode cX7_reversedShare 35 = .ok (.iinc 2 1, 3) := by decide +kernel
theorem dX7_reversedShare_38 : decode cX7_reversedShare 38 = .ok (.goto (-34), 3) := by decide +kernel
theorem dX7_reversedShare_41 : decode cX7_reversedShare 41 = .ok (.iload_n 1, 1) := by decide +kernel
theorem dX7_reversedShare_42 : decode cX7_reversedShare 42 = .ok (.ifCond .ne 14, 3) := by decide +kernel
theorem dX7_reversedShare_45 : decode cX7_reversedShare 45 = .ok (.new 293, 3) := by decide +kernel
theorem dX7_reversedShare_48 : decode cX7_reversedShare 48 = .ok (.dup, 1) := by decide +kernel
theorem dX7_reversedShare_49 : decode cX7_reversedShare 49 = .ok (.ldc_w 304, 3) := by decide +kernel
theorem dX7_reversedShare_52 : decode cX7_reversedShare 52 = .ok (.invokespecial 297, 3) := by decide +kernel
theorem dX7_reversedShare_55 : decode cX7_reversedShare 55 = .ok (.athrow, 1) := by decide +kernel
theorem dX7_reversedShare_56 : decode cX7_reversedShare 56 = .ok (.aload_n 0, 1) := by decide +kernel
theorem dX7_reversedShare_57 : decode cX7_reversedShare 57 = .ok (.invokevirtual 288, 3) := by decide +kernel
theorem dX7_reversedShare_60 : decode cX7_reversedShare 60 = .ok (.i2f, 1) := by decide +kernel
theorem dX7_reversedShare_61 : decode cX7_reversedShare 61 = .ok (.iload_n 1, 1) := by decide +kernel
theorem dX7_reversedShare_62 : decode cX7_reversedShare 62 = .ok (.i2f, 1) := by decide +kernel
theorem dX7_reversedShare_63 : decode cX7_reversedShare 63 = .ok (.fdiv, 1) := by decide +kernel
theorem dX7_reversedShare_64 : decode cX7_reversedShare 64 = .ok (.freturn, 1) := by decide +kernel
theorem dX7_sanctionDays_0 : decode cX7_sanctionDays 0 = .ok (.lconst 0, 1) := by decide +kernel
theorem dX7_sanctionDays_1 : decode cX7_sanctionDays 1 = .ok (.lstore_n 1, 1) := by decide +kernel
theorem dX7_sanctionDays_2 : decode cX7_sanctionDays 2 = .ok (.iconst 0, 1) := by decide +kernel
theorem dX7_sanctionDays_3 : decode cX7_sanctionDays 3 = .ok (.istore_n 3, 1) := by decide +kernel
theorem dX7_sanctionDays_4 : decode cX7_sanctionDays 4 = .ok (.iload_n 3, 1) := by decide +kernel
theorem dX7_sanctionDays_5 : decode cX7_sanctionDays 5 = .ok (.aload_n 0, 1) := by decide +kernel
theorem dX7_sanctionDays_6 : decode cX7_sanctionDays 6 = .ok (.getfield 25, 3) := by decide +kernel
theorem dX7_sanctionDays_9 : decode cX7_sanctionDays 9 = .ok (.invokevirtual 52, 3) := by decide +kernel
theorem dX7_sanctionDays_12 : decode cX7_sanctionDays 12 = .ok (.if_icmp .ge 31, 3) := by decide +kernel
theorem dX7_sanctionDays_15 : decode cX7_sanctionDays 15 = .ok (.lload_n 1, 1) := by decide +kernel
theorem dX7_sanctionDays_16 : decode cX7_sanctionDays 16 = .ok (.aload_n 0, 1) := by decide +kernel
theorem dX7_sanctionDays_17 : decode cX7_sanctionDays 17 = .ok (.getfield 25, 3) := by decide +kernel
theorem dX7_sanctionDays_20 : decode cX7_sanctionDays 20 = .ok (.iload_n 3, 1) := by decide +kernel
theorem dX7_sanctionDays_21 : decode cX7_sanctionDays 21 = .ok (.invokevirtual 117, 3) := by decide +kernel
theorem dX7_sanctionDays_24 : decode cX7_sanctionDays 24 = .ok (.checkcast 143, 3) := by decide +kernel
theorem dX7_sanctionDays_27 : decode cX7_sanctionDays 27 = .ok (.aload_n 0, 1) := by decide +kernel
theorem dX7_sanctionDays_28 : decode cX7_sanctionDays 28 = .ok (.getfield 41, 3) := by decide +kernel
theorem dX7_sanctionDays_31 : decode cX7_sanctionDays 31 = .ok (.invokevirtual 306, 3) := by decide +kernel
theorem dX7_sanctionDays_34 : decode cX7_sanctionDays 34 = .ok (.i2l, 1) := by decide +kernel
theorem dX7_sanctionDays_35 : decode cX7_sanctionDays 35 = .ok (.ladd, 1) := by decide +kernel
theorem dX7_sanctionDays_36 : decode cX7_sanctionDays 36 = .ok (.lstore_n 1, 1) := by decide +kernel
theorem dX7_sanctionDays_37 : decode cX7_sanctionDays 37 = .ok (.iinc 3 1, 3) := by decide +kernel
theorem dX7_sanctionDays_40 : decode cX7_sanctionDays 40 = .ok (.goto (-36), 3) := by decide +kernel
theorem dX7_sanctionDays_43 : decode cX7_sanctionDays 43 = .ok (.lload_n 1, 1) := by decide +kernel
theorem dX7_sanctionDays_44 : decode cX7_sanctionDays 44 = .ok (.lreturn, 1) := by decide +kernel
theorem dX7_isConsistent_0 : decode cX7_isConsistent 0 = .ok (.aload_n 0, 1) := by decide +kernel
theorem dX7_isConsistent_1 : decode cX7_isConsistent 1 = .ok (.invokevirtual 234, 3) := by decide +kernel
theorem dX7_isConsistent_4 : decode cX7_isConsistent 4 = .ok (.iconst 0, 1) := by decide +kernel
theorem dX7_isConsistent_5 : decode cX7_isConsistent 5 = .ok (.istore_n 1, 1) := by decide +kernel
theorem dX7_isConsistent_6 : decode cX7_isConsistent 6 = .ok (.iload_n 1, 1) := by decide +kernel
theorem dX7_isConsistent_7 : decode cX7_isConsistent 7 = .ok (.aload_n 0, 1) := by decide +kernel
theorem dX7_isConsistent_8 : decode cX7_isConsistent 8 = .ok (.getfield 22, 3) := by decide +kernel
theorem dX7_isConsistent_11 : decode cX7_isConsistent 11 = .ok (.invokevirtual 52, 3) := by decide +kernel
theorem dX7_isConsistent_14 : decode cX7_isConsistent 14 = .ok (.if_icmp .ge 79, 3) := by decide +kernel
theorem dX7_isConsistent_17 : decode cX7_isConsistent 17 = .ok (.aload_n 0, 1) := by decide +kernel
theorem dX7_isConsistent_18 : decode cX7_isConsistent 18 = .ok (.getfield 22, 3) := by decide +kernel
theorem dX7_isConsistent_21 : decode cX7_isConsistent 21 = .ok (.iload_n 1, 1) := by decide +kernel
theorem dX7_isConsistent_22 : decode cX7_isConsistent 22 = .ok (.invokevirtual 117, 3) := by decide +kernel
theorem dX7_isConsistent_25 : decode cX7_isConsistent 25 = .ok (.checkcast 168, 3) := by decide +kernel
theorem dX7_isConsistent_28 : decode cX7_isConsistent 28 = .ok (.getfield 185, 3) := by decide +kernel
theorem dX7_isConsistent_31 : decode cX7_isConsistent 31 = .ok (.bipush 100, 2) := by decide +kernel
theorem dX7_isConsistent_33 : decode cX7_isConsistent 33 = .ok (.if_icmp .ne 7, 3) := by decide +kernel
theorem dX7_isConsistent_36 : decode cX7_isConsistent 36 = .ok (.iconst 1, 1) := by decide +kernel
theorem dX7_isConsistent_37 : decode cX7_isConsistent 37 = .ok (.goto 4, 3) := by decide +kernel
theorem dX7_isConsistent_40 : decode cX7_isConsistent 40 = .ok (.iconst 0, 1) := by decide +kernel
theorem dX7_isConsistent_41 : decode cX7_isConsistent 41 = .ok (.istore_n 2, 1) := by decide +kernel
theorem dX7_isConsistent_42 : decode cX7_isConsistent 42 = .ok (.aload_n 0, 1) := by decide +kernel
theorem dX7_isConsistent_43 : decode cX7_isConsistent 43 = .ok (.getfield 34, 3) := by decide +kernel
theorem dX7_isConsistent_46 : decode cX7_isConsistent 46 = .ok (.iload_n 1, 1) := by decide +kernel
theorem dX7_isConsistent_47 : decode cX7_isConsistent 47 = .ok (.invokevirtual 230, 3) := by decide +kernel
theorem dX7_isConsistent_50 : decode cX7_isConsistent 50 = .ok (.bipush 45, 2) := by decide +kernel
theorem dX7_isConsistent_52 : decode cX7_isConsistent 52 = .ok (.if_icmp .eq 7, 3) := by decide +kernel
theorem dX7_isConsistent_55 : decode cX7_isConsistent 55 = .ok (.iconst 1, 1) := by decide +kernel
theorem dX7_isConsistent_56 : decode cX7_isConsistent 56 = .ok (.goto 4, 3) := by decide +kernel
theorem dX7_isConsistent_59 : decode cX7_isConsistent 59 = .ok (.iconst 0, 1) := by decide +kernel
theorem dX7_isConsistent_60 : decode cX7_isConsistent 60 = .ok (.istore_n 3, 1) := by decide +kernel
theorem dX7_isConsistent_61 : decode cX7_isConsistent 61 = .ok (.iload_n 2, 1) := by decide +kernel
theorem dX7_isConsistent_62 : decode cX7_isConsistent 62 = .ok (.iload_n 3, 1) := by decide +kernel
theorem dX7_isConsistent_63 : decode cX7_isConsistent 63 = .ok (.if_icmp .ne 22, 3) := by decide +kernel
theorem dX7_isConsistent_66 : decode cX7_isConsistent 66 = .ok (.aload_n 0, 1) := by decide +kernel
theorem dX7_isConsistent_67 : decode cX7_isConsistent 67 = .ok (.getfield 34, 3) := by decide +kernel
theorem dX7_isConsistent_70 : decode cX7_isConsistent 70 = .ok (.iload_n 1, 1) := by decide +kernel
theorem dX7_isConsistent_71 : decode cX7_isConsistent 71 = .ok (.invokevirtual 230, 3) := by decide +kernel
theorem dX7_isConsistent_74 : decode cX7_isConsistent 74 = .ok (.aload_n 0, 1) := by decide +kernel
theorem dX7_isConsistent_75 : decode cX7_isConsistent 75 = .ok (.getfield 38, 3) := by decide +kernel
theorem dX7_isConsistent_78 : decode cX7_isConsistent 78 = .ok (.iload_n 1, 1) := by decide +kernel
theorem dX7_isConsistent_79 : decode cX7_isConsistent 79 = .ok (.invokevirtual 230, 3) := by decide +kernel
theorem dX7_isConsistent_82 : decode cX7_isConsistent 82 = .ok (.if_icmp .eq 5, 3) := by decide +kernel
theorem dX7_isConsistent_85 : decode cX7_isConsistent 85 = .ok (.iconst 0, 1) := by decide +kernel
theorem dX7_isConsistent_86 : decode cX7_isConsistent 86 = .ok (.ireturn, 1) := by decide +kernel
theorem dX7_isConsistent_87 : decode cX7_isConsistent 87 = .ok (.iinc 1 1, 3) := by decide +kernel
theorem dX7_isConsistent_90 : decode cX7_isConsistent 90 = .ok (.goto (-84), 3) := by decide +kernel
theorem dX7_isConsistent_93 : decode cX7_isConsistent 93 = .ok (.iconst 0, 1) := by decide +kernel
theorem dX7_isConsistent_94 : decode cX7_isConsistent 94 = .ok (.istore_n 1, 1) := by decide +kernel
theorem dX7_isConsistent_95 : decode cX7_isConsistent 95 = .ok (.iload_n 1, 1) := by decide +kernel
theorem dX7_isConsistent_96 : decode cX7_isConsistent 96 = .ok (.aload_n 0, 1) := by decide +kernel
theorem dX7_isConsistent_97 : decode cX7_isConsistent 97 = .ok (.getfield 19, 3) := by decide +kernel
theorem dX7_isConsistent_100 : decode cX7_isConsistent 100 = .ok (.invokevirtual 52, 3) := by decide +kernel
theorem dX7_isConsistent_103 : decode cX7_isConsistent 103 = .ok (.if_icmp .ge 38, 3) := by decide +kernel
theorem dX7_isConsistent_106 : decode cX7_isConsistent 106 = .ok (.aload_n 0, 1) := by decide +kernel
theorem dX7_isConsistent_107 : decode cX7_isConsistent 107 = .ok (.getfield 19, 3) := by decide +kernel
theorem dX7_isConsistent_110 : decode cX7_isConsistent 110 = .ok (.iload_n 1, 1) := by decide +kernel
theorem dX7_isConsistent_111 : decode cX7_isConsistent 111 = .ok (.invokevirtual 117, 3) := by decide +kernel
theorem dX7_isConsistent_114 : decode cX7_isConsistent 114 = .ok (.checkcast 153, 3) := by decide +kernel
theorem dX7_isConsistent_117 : decode cX7_isConsistent 117 = .ok (.getfield 160, 3) := by decide +kernel
theorem dX7_isConsistent_120 : decode cX7_isConsistent 120 = .ok (.istore_n 2, 1) := by decide +kernel
theorem dX7_isConsistent_121 : decode cX7_isConsistent 121 = .ok (.iload_n 2, 1) := by decide +kernel
theorem dX7_isConsistent_122 : decode cX7_isConsistent 122 = .ok (.bipush 50, 2) := by decide +kernel
theorem dX7_isConsistent_124 : decode cX7_isConsistent 124 = .ok (.if_icmp .lt 9, 3) := by decide +kernel
theorem dX7_isConsistent_127 : decode cX7_isConsistent 127 = .ok (.iload_n 2, 1) := by decide +kernel
theorem dX7_isConsistent_128 : decode cX7_isConsistent 128 = .ok (.bipush 100, 2) := by decide +kernel
theorem dX7_isConsistent_130 : decode cX7_isConsistent 130 = .ok (.if_icmp .le 5, 3) := by decide +kernel
theorem dX7_isConsistent_133 : decode cX7_isConsistent 133 = .ok (.iconst 0, 1) := by decide +kernel
theorem dX7_isConsistent_134 : decode cX7_isConsistent 134 = .ok (.ireturn, 1) := by decide +kernel
theorem dX7_isConsistent_135 : decode cX7_isConsistent 135 = .ok (.iinc 1 1, 3) := by decide +kernel
theorem dX7_isConsistent_138 : decode cX7_isConsistent 138 = .ok (.goto (-43), 3) := by decide +kernel
theorem dX7_isConsistent_141 : decode cX7_isConsistent 141 = .ok (.aload_n 0, 1) := by decide +kernel
theorem dX7_isConsistent_142 : decode cX7_isConsistent 142 = .ok (.getfield 34, 3) := by decide +kernel
theorem dX7_isConsistent_145 : decode cX7_isConsistent 145 = .ok (.getfield 275, 3) := by decide +kernel
theorem dX7_isConsistent_148 : decode cX7_isConsistent 148 = .ok (.aload_n 0, 1) := by decide +kernel
theorem dX7_isConsistent_149 : decode cX7_isConsistent 149 = .ok (.getfield 38, 3) := by decide +kernel
theorem dX7_isConsistent_152 : decode cX7_isConsistent 152 = .ok (.getfield 275, 3) := by decide +kernel
theorem dX7_isConsistent_155 : decode cX7_isConsistent 155 = .ok (.if_icmp .ne 7, 3) := by decide +kernel
theorem dX7_isConsistent_158 : decode cX7_isConsistent 158 = .ok (.iconst 1, 1) := by decide +kernel
theorem dX7_isConsistent_159 : decode cX7_isConsistent 159 = .ok (.goto 4, 3) := by decide +kernel
theorem dX7_isConsistent_162 : decode cX7_isConsistent 162 = .ok (.iconst 0, 1) := by decide +kernel
theorem dX7_isConsistent_163 : decode cX7_isConsistent 163 = .ok (.ireturn, 1) := by decide +kernel
theorem dX7_requireWithin_0 : decode cX7_requireWithin 0 = .ok (.iload_n 0, 1) := by decide +kernel
theorem dX7_requireWithin_1 : decode cX7_requireWithin 1 = .ok (.iload_n 1, 1) := by decide +kernel
theorem dX7_requireWithin_2 : decode cX7_requireWithin 2 = .ok (.if_icmp .lt 8, 3) := by decide +kernel
theorem dX7_requireWithin_5 : decode cX7_requireWithin 5 = .ok (.iload_n 0, 1) := by decide +kernel
theorem dX7_requireWithin_6 : decode cX7_requireWithin 6 = .ok (.iload_n 2, 1) := by decide +kernel
theorem dX7_requireWithin_7 : decode cX7_requireWithin 7 = .ok (.if_icmp .le 14, 3) := by decide +kernel
theorem dX7_requireWithin_10 : decode cX7_requireWithin 10 = .ok (.new 163, 3) := by decide +kernel
theorem dX7_requireWithin_13 : decode cX7_requireWithin 13 = .ok (.dup, 1) := by decide +kernel
theorem dX7_requireWithin_14 : decode cX7_requireWithin 14 = .ok (.ldc_w 309, 3) := by decide +kernel
theorem dX7_requireWithin_17 : decode cX7_requireWithin 17 = .ok (.invokespecial 167, 3) := by decide +kernel
theorem dX7_requireWithin_20 : decode cX7_requireWithin 20 = .ok (.athrow, 1) := by decide +kernel
theorem dX7_requireWithin_21 : decode cX7_requireWithin 21 = .ok (.return_, 1) := by decide +kernel
theorem dX7_requireRoom_0 : decode cX7_requireRoom 0 = .ok (.iload_n 0, 1) := by decide +kernel
theorem dX7_requireRoom_1 : decode cX7_requireRoom 1 = .ok (.iload_n 1, 1) := by decide +kernel
theorem dX7_requireRoom_2 : decode cX7_requireRoom 2 = .ok (.if_icmp .lt 14, 3) := by decide +kernel
theorem dX7_requireRoom_5 : decode cX7_requireRoom 5 = .ok (.new 86, 3) := by decide +kernel
theorem dX7_requireRoom_8 : decode cX7_requireRoom 8 = .ok (.dup, 1) := by decide +kernel
theorem dX7_requireRoom_9 : decode cX7_requireRoom 9 = .ok (.ldc_w 311, 3) := by decide +kernel
theorem dX7_requireRoom_12 : decode cX7_requireRoom 12 = .ok (.invokespecial 90, 3) := by decide +kernel
theorem dX7_requireRoom_15 : decode cX7_requireRoom 15 = .ok (.athrow, 1) := by decide +kernel
theorem dX7_requireRoom_16 : decode cX7_requireRoom 16 = .ok (.return_, 1) := by decide +kernel
theorem dX7_requireIndex_0 : decode cX7_requireIndex 0 = .ok (.iload_n 0, 1) := by decide +kernel
theorem dX7_requireIndex_1 : decode cX7_requireIndex 1 = .ok (.ifCond .lt 8, 3) := by decide +kernel
theorem dX7_requireIndex_4 : decode cX7_requireIndex 4 = .ok (.iload_n 0, 1) := by decide +kernel
theorem dX7_requireIndex_5 : decode cX7_requireIndex 5 = .ok (.iload_n 1, 1) := by decide +kernel
theorem dX7_requireIndex_6 : decode cX7_requireIndex 6 = .ok (.if_icmp .lt 14, 3) := by decide +kernel
theorem dX7_requireIndex_9 : decode cX7_requireIndex 9 = .ok (.new 313, 3) := by decide +kernel
theorem dX7_requireIndex_12 : decode cX7_requireIndex 12 = .ok (.dup, 1) := by decide +kernel
theorem dX7_requireIndex_13 : decode cX7_requireIndex 13 = .ok (.ldc_w 315, 3) := by decide +kernel
theorem dX7_requireIndex_16 : decode cX7_requireIndex 16 = .ok (.invokespecial 317, 3) := by decide +kernel
theorem dX7_requireIndex_19 : decode cX7_requireIndex 19 = .ok (.athrow, 1) := by decide +kernel
theorem dX7_requireIndex_20 : decode cX7_requireIndex 20 = .ok (.return_, 1) := by decide +kernel
theorem dX7_requireUndecided_0 : decode cX7_requireUndecided 0 = .ok (.aload_n 0, 1) := by decide +kernel
theorem dX7_requireUndecided_1 : decode cX7_requireUndecided 1 = .ok (.getfield 185, 3) := by decide +kernel
theorem dX7_requireUndecided_4 : decode cX7_requireUndecided 4 = .ok (.bipush 100, 2) := by decide +kernel
theorem dX7_requireUndecided_6 : decode cX7_requireUndecided 6 = .ok (.if_icmp .ne 14, 3) := by decide +kernel
theorem dX7_requireUndecided_9 : decode cX7_requireUndecided 9 = .ok (.new 86, 3) := by decide +kernel
theorem dX7_requireUndecided_12 : decode cX7_requireUndecided 12 = .ok (.dup, 1) := by decide +kernel
theorem dX7_requireUndecided_13 : decode cX7_requireUndecided 13 = .ok (.ldc_w 318, 3) := by decide +kernel
theorem dX7_requireUndecided_16 : decode cX7_requireUndecided 16 = .ok (.invokespecial 90, 3) := by decide +kernel
theorem dX7_requireUndecided_19 : decode cX7_requireUndecided 19 = .ok (.athrow, 1) := by decide +kernel
theorem dX7_requireUndecided_20 : decode cX7_requireUndecided 20 = .ok (.return_, 1) := by decide +kernel
theorem dX7_requireStanding_0 : decode cX7_requireStanding 0 = .ok (.aload_n 0, 1) := by decide +kernel
theorem dX7_requireStanding_1 : decode cX7_requireStanding 1 = .ok (.getfield 185, 3) := by decide +kernel
theorem dX7_requireStanding_4 : decode cX7_requireStanding 4 = .ok (.bipush 100, 2) := by decide +kernel
theorem dX7_requireStanding_6 : decode cX7_requireStanding 6 = .ok (.if_icmp .eq 14, 3) := by decide +kernel
theorem dX7_requireStanding_9 : decode cX7_requireStanding 9 = .ok (.new 112, 3) := by decide +kernel
theorem dX7_requireStanding_12 : decode cX7_requireStanding 12 = .ok (.dup, 1) := by decide +kernel
theorem dX7_requireStanding_13 : decode cX7_requireStanding 13 = .ok (.ldc_w 320, 3) := by decide +kernel
theorem dX7_requireStanding_16 : decode cX7_requireStanding 16 = .ok (.invokespecial 116, 3) := by decide +kernel
theorem dX7_requireStanding_19 : decode cX7_requireStanding 19 = .ok (.athrow, 1) := by decide +kernel
theorem dX7_requireStanding_20 : decode cX7_requireStanding 20 = .ok (.return_, 1) := by decide +kernel
theorem dX7_ruleAt_0 : decode cX7_ruleAt 0 = .ok (.iload_n 1, 1) := by decide +kernel
theorem dX7_ruleAt_1 : decode cX7_ruleAt 1 = .ok (.aload_n 0, 1) := by decide +kernel
theorem dX7_ruleAt_2 : decode cX7_ruleAt 2 = .ok (.getfield 10, 3) := by decide +kernel
theorem dX7_ruleAt_5 : decode cX7_ruleAt 5 = .ok (.invokevirtual 52, 3) := by decide +kernel
theorem dX7_ruleAt_8 : decode cX7_ruleAt 8 = .ok (.invokestatic 157, 3) := by decide +kernel
theorem dX7_ruleAt_11 : decode cX7_ruleAt 11 = .ok (.aload_n 0, 1) := by decide +kernel
theorem dX7_ruleAt_12 : decode cX7_ruleAt 12 = .ok (.getfield 10, 3) := by decide +kernel
theorem dX7_ruleAt_15 : decode cX7_ruleAt 15 = .ok (.iload_n 1, 1) := by decide +kernel
theorem dX7_ruleAt_16 : decode cX7_ruleAt 16 = .ok (.invokevirtual 117, 3) := by decide +kernel
theorem dX7_ruleAt_19 : decode cX7_ruleAt 19 = .ok (.checkcast 60, 3) := by decide +kernel
theorem dX7_ruleAt_22 : decode cX7_ruleAt 22 = .ok (.areturn, 1) := by decide +kernel
theorem dX7_userAt_0 : decode cX7_userAt 0 = .ok (.iload_n 1, 1) := by decide +kernel
theorem dX7_userAt_1 : decode cX7_userAt 1 = .ok (.aload_n 0, 1) := by decide +kernel
theorem dX7_userAt_2 : decode cX7_userAt 2 = .ok (.getfield 16, 3) := by decide +kernel
theorem dX7_userAt_5 : decode cX7_userAt 5 = .ok (.invokevirtual 52, 3) := by decide +kernel
theorem dX7_userAt_8 : decode cX7_userAt 8 = .ok (.invokestatic 157, 3) := by decide +kernel
theorem dX7_userAt_11 : decode cX7_userAt 11 = .ok (.aload_n 0, 1) := by decide +kernel
theorem dX7_userAt_12 : decode cX7_userAt 12 = .ok (.getfield 16, 3) := by decide +kernel
theorem dX7_userAt_15 : decode cX7_userAt 15 = .ok (.iload_n 1, 1) := by decide +kernel
theorem dX7_userAt_16 : decode cX7_userAt 16 = .ok (.invokevirtual 117, 3) := by decide +kernel
theorem dX7_userAt_19 : decode cX7_userAt 19 = .ok (.checkcast 125, 3) := by decide +kernel
theorem dX7_userAt_22 : decode cX7_userAt 22 = .ok (.areturn, 1) := by decide +kernel
theorem dX7_reportAt_0 : decode cX7_reportAt 0 = .ok (.iload_n 1, 1) := by decide +kernel
theorem dX7_reportAt_1 : decode cX7_reportAt 1 = .ok (.aload_n 0, 1) := by decide +kernel
theorem dX7_reportAt_2 : decode cX7_reportAt 2 = .ok (.getfield 22, 3) := by decide +kernel
theorem dX7_reportAt_5 : decode cX7_reportAt 5 = .ok (.invokevirtual 52, 3) := by decide +kernel
theorem dX7_reportAt_8 : decode cX7_reportAt 8 = .ok (.invokestatic 157, 3) := by decide +kernel
theorem dX7_reportAt_11 : decode cX7_reportAt 11 = .ok (.aload_n 0, 1) := by decide +kernel
theorem dX7_reportAt_12 : decode cX7_reportAt 12 = .ok (.getfield 22, 3) := by decide +kernel
theorem dX7_reportAt_15 : decode cX7_reportAt 15 = .ok (.iload_n 1, 1) := by decide +kernel
theorem dX7_reportAt_16 : decode cX7_reportAt 16 = .ok (.invokevirtual 117, 3) := by decide +kernel
theorem dX7_reportAt_19 : decode cX7_reportAt 19 = .ok (.checkcast 168, 3) := by decide +kernel
theorem dX7_reportAt_22 : decode cX7_reportAt 22 = .ok (.areturn, 1) := by decide +kernel
theorem dX7_rulesInForce_0 : decode cX7_rulesInForce 0 = .ok (.iconst 0, 1) := by decide +kernel
theorem dX7_rulesInForce_1 : decode cX7_rulesInForce 1 = .ok (.istore_n 2, 1) := by decide +kernel
theorem dX7_rulesInForce_2 : decode cX7_rulesInForce 2 = .ok (.iconst 0, 1) := by decide +kernel
theorem dX7_rulesInForce_3 : decode cX7_rulesInForce 3 = .ok (.istore_n 3, 1) := by decide +kernel
theorem dX7_rulesInForce_4 : decode cX7_rulesInForce 4 = .ok (.iload_n 3, 1) := by decide +kernel
theorem dX7_rulesInForce_5 : decode cX7_rulesInForce 5 = .ok (.aload_n 0, 1) := by decide +kernel
theorem dX7_rulesInForce_6 : decode cX7_rulesInForce 6 = .ok (.getfield 10, 3) := by decide +kernel
theorem dX7_rulesInForce_9 : decode cX7_rulesInForce 9 = .ok (.invokevirtual 52, 3) := by decide +kernel
theorem dX7_rulesInForce_12 : decode cX7_rulesInForce 12 = .ok (.if_icmp .ge 30, 3) := by decide +kernel
theorem dX7_rulesInForce_15 : decode cX7_rulesInForce 15 = .ok (.aload_n 0, 1) := by decide +kernel
theorem dX7_rulesInForce_16 : decode cX7_rulesInForce 16 = .ok (.getfield 10, 3) := by decide +kernel
theorem dX7_rulesInForce_19 : decode cX7_rulesInForce 19 = .ok (.iload_n 3, 1) := by decide +kernel
theorem dX7_rulesInForce_20 : decode cX7_rulesInForce 20 = .ok (.invokevirtual 117, 3) := by decide +kernel
theorem dX7_rulesInForce_23 : decode cX7_rulesInForce 23 = .ok (.checkcast 60, 3) := by decide +kernel
theorem dX7_rulesInForce_26 : decode cX7_rulesInForce 26 = .ok (.iload_n 1, 1) := by decide +kernel
theorem dX7_rulesInForce_27 : decode cX7_rulesInForce 27 = .ok (.invokevirtual 100, 3) := by decide +kernel
theorem dX7_rulesInForce_30 : decode cX7_rulesInForce 30 = .ok (.ifCond .eq 6, 3) := by decide +kernel
theorem dX7_rulesInForce_33 : decode cX7_rulesInForce 33 = .ok (.iinc 2 1, 3) := by decide +kernel
theorem dX7_rulesInForce_36 : decode cX7_rulesInForce 36 = .ok (.iinc 3 1, 3) := by decide +kernel
theorem dX7_rulesInForce_39 : decode cX7_rulesInForce 39 = .ok (.goto (-35), 3) := by decide +kernel
theorem dX7_rulesInForce_42 : decode cX7_rulesInForce 42 = .ok (.iload_n 2, 1) := by decide +kernel
theorem dX7_rulesInForce_43 : decode cX7_rulesInForce 43 = .ok (.ireturn, 1) := by decide +kernel
theorem dX7_areInConflict_0 : decode cX7_areInConflict 0 = .ok (.aload_n 0, 1) := by decide +kernel
theorem dX7_areInConflict_1 : decode cX7_areInConflict 1 = .ok (.iload_n 2, 1) := by decide +kernel
theorem dX7_areInConflict_2 : decode cX7_areInConflict 2 = .ok (.invokevirtual 100, 3) := by decide +kernel
theorem dX7_areInConflict_5 : decode cX7_areInConflict 5 = .ok (.ifCond .eq 48, 3) := by decide +kernel
theorem dX7_areInConflict_8 : decode cX7_areInConflict 8 = .ok (.aload_n 1, 1) := by decide +kernel
theorem dX7_areInConflict_9 : decode cX7_areInConflict 9 = .ok (.iload_n 2, 1) := by decide +kernel
theorem dX7_areInConflict_10 : decode cX7_areInConflict 10 = .ok (.invokevirtual 100, 3) := by decide +kernel
theorem dX7_areInConflict_13 : decode cX7_areInConflict 13 = .ok (.ifCond .eq 40, 3) := by decide +kernel
theorem dX7_areInConflict_16 : decode cX7_areInConflict 16 = .ok (.aload_n 0, 1) := by decide +kernel
theorem dX7_areInConflict_17 : decode cX7_areInConflict 17 = .ok (.getfield 322, 3) := by decide +kernel
theorem dX7_areInConflict_20 : decode cX7_areInConflict 20 = .ok (.aload_n 1, 1) := by decide +kernel
theorem dX7_areInConflict_21 : decode cX7_areInConflict 21 = .ok (.getfield 322, 3) := by decide +kernel
theorem dX7_areInConflict_24 : decode cX7_areInConflict 24 = .ok (.if_icmp .ne 29, 3) := by decide +kernel
theorem dX7_areInConflict_27 : decode cX7_areInConflict 27 = .ok (.aload_n 0, 1) := by decide +kernel
theorem dX7_areInConflict_28 : decode cX7_areInConflict 28 = .ok (.getfield 325, 3) := by decide +kernel
theorem dX7_areInConflict_31 : decode cX7_areInConflict 31 = .ok (.aload_n 1, 1) := by decide +kernel
theorem dX7_areInConflict_32 : decode cX7_areInConflict 32 = .ok (.getfield 325, 3) := by decide +kernel
theorem dX7_areInConflict_35 : decode cX7_areInConflict 35 = .ok (.if_icmp .ne 18, 3) := by decide +kernel
theorem dX7_areInConflict_38 : decode cX7_areInConflict 38 = .ok (.aload_n 0, 1) := by decide +kernel
theorem dX7_areInConflict_39 : decode cX7_areInConflict 39 = .ok (.getfield 328, 3) := by decide +kernel
theorem dX7_areInConflict_42 : decode cX7_areInConflict 42 = .ok (.aload_n 1, 1) := by decide +kernel
theorem dX7_areInConflict_43 : decode cX7_areInConflict 43 = .ok (.getfield 328, 3) := by decide +kernel
theorem dX7_areInConflict_46 : decode cX7_areInConflict 46 = .ok (.if_icmp .eq 7, 3) := by decide +kernel
theorem dX7_areInConflict_49 : decode cX7_areInConflict 49 = .ok (.iconst 1, 1) := by decide +kernel
theorem dX7_areInConflict_50 : decode cX7_areInConflict 50 = .ok (.goto 4, 3) := by decide +kernel
theorem dX7_areInConflict_53 : decode cX7_areInConflict 53 = .ok (.iconst 0, 1) := by decide +kernel
theorem dX7_areInConflict_54 : decode cX7_areInConflict 54 = .ok (.ireturn, 1) := by decide +kernel
theorem dX7_ruleFor_0 : decode cX7_ruleFor 0 = .ok (.iconst (-1), 1) := by decide +kernel
theorem dX7_ruleFor_1 : decode cX7_ruleFor 1 = .ok (.istore_n 2, 1) := by decide +kernel
theorem dX7_ruleFor_2 : decode cX7_ruleFor 2 = .ok (.iconst (-1), 1) := by decide +kernel
theorem dX7_ruleFor_3 : decode cX7_ruleFor 3 = .ok (.istore_n 3, 1) := by decide +kernel
theorem dX7_ruleFor_4 : decode cX7_ruleFor 4 = .ok (.iconst 0, 1) := by decide +kernel
theorem dX7_ruleFor_5 : decode cX7_ruleFor 5 = .ok (.istore 4, 2) := by decide +kernel
theorem dX7_ruleFor_7 : decode cX7_ruleFor 7 = .ok (.iload 4, 2) := by decide +kernel
theorem dX7_ruleFor_9 : decode cX7_ruleFor 9 = .ok (.aload_n 0, 1) := by decide +kernel
theorem dX7_ruleFor_10 : decode cX7_ruleFor 10 = .ok (.getfield 10, 3) := by decide +kernel
theorem dX7_ruleFor_13 : decode cX7_ruleFor 13 = .ok (.invokevirtual 52, 3) := by decide +kernel
theorem dX7_ruleFor_16 : decode cX7_ruleFor 16 = .ok (.if_icmp .ge 65, 3) := by decide +kernel
theorem dX7_ruleFor_19 : decode cX7_ruleFor 19 = .ok (.aload_n 0, 1) := by decide +kernel
theorem dX7_ruleFor_20 : decode cX7_ruleFor 20 = .ok (.getfield 10, 3) := by decide +kernel
theorem dX7_ruleFor_23 : decode cX7_ruleFor 23 = .ok (.iload 4, 2) := by decide +kernel
theorem dX7_ruleFor_25 : decode cX7_ruleFor 25 = .ok (.invokevirtual 117, 3) := by decide +kernel
theorem dX7_ruleFor_28 : decode cX7_ruleFor 28 = .ok (.checkcast 60, 3) := by decide +kernel
theorem dX7_ruleFor_31 : decode cX7_ruleFor 31 = .ok (.astore 5, 2) := by decide +kernel
theorem dX7_ruleFor_33 : decode cX7_ruleFor 33 = .ok (.aload 5, 2) := by decide +kernel
theorem dX7_ruleFor_35 : decode cX7_ruleFor 35 = .ok (.aload_n 1, 1) := by decide +kernel
theorem dX7_ruleFor_36 : decode cX7_ruleFor 36 = .ok (.getfield 331, 3) := by decide +kernel
theorem dX7_ruleFor_39 : decode cX7_ruleFor 39 = .ok (.invokevirtual 100, 3) := by decide +kernel
theorem dX7_ruleFor_42 : decode cX7_ruleFor 42 = .ok (.ifCond .eq 33, 3) := by decide +kernel
theorem dX7_ruleFor_45 : decode cX7_ruleFor 45 = .ok (.aload_n 1, 1) := by decide +kernel
theorem dX7_ruleFor_46 : decode cX7_ruleFor 46 = .ok (.aload 5, 2) := by decide +kernel
theorem dX7_ruleFor_48 : decode cX7_ruleFor 48 = .ok (.getfield 322, 3) := by decide +kernel
theorem dX7_ruleFor_51 : decode cX7_ruleFor 51 = .ok (.invokevirtual 334, 3) := by decide +kernel
theorem dX7_ruleFor_54 : decode cX7_ruleFor 54 = .ok (.ifCond .eq 21, 3) := by decide +kernel
theorem dX7_ruleFor_57 : decode cX7_ruleFor 57 = .ok (.aload 5, 2) := by decide +kernel
theorem dX7_ruleFor_59 : decode cX7_ruleFor 59 = .ok (.getfield 325, 3) := by decide +kernel
theorem dX7_ruleFor_62 : decode cX7_ruleFor 62 = .ok (.iload_n 3, 1) := by decide +kernel
theorem dX7_ruleFor_63 : decode cX7_ruleFor 63 = .ok (.if_icmp .lt 12, 3) := by decide +kernel
theorem dX7_ruleFor_66 : decode cX7_ruleFor 66 = .ok (.iload 4, 2) := by decide +kernel
theorem dX7_ruleFor_68 : decode cX7_ruleFor 68 = .ok (.istore_n 2, 1) := by decide +kernel
theorem dX7_ruleFor_69 : decode cX7_ruleFor 69 = .ok (.aload 5, 2) := by decide +kernel
theorem dX7_ruleFor_71 : decode cX7_ruleFor 71 = .ok (.getfield 325, 3) := by decide +kernel
theorem dX7_ruleFor_74 : decode cX7_ruleFor 74 = .ok (.istore_n 3, 1) := by decide +kernel
theorem dX7_ruleFor_75 : decode cX7_ruleFor 75 = .ok (.iinc 4 1, 3) := by decide +kernel
theorem dX7_ruleFor_78 : decode cX7_ruleFor 78 = .ok (.goto (-71), 3) := by decide +kernel
theorem dX7_ruleFor_81 : decode cX7_ruleFor 81 = .ok (.iload_n 2, 1) := by decide +kernel
theorem dX7_ruleFor_82 : decode cX7_ruleFor 82 = .ok (.ireturn, 1) := by decide +kernel
theorem dX7_botFor_0 : decode cX7_botFor 0 = .ok (.iconst 0, 1) := by decide +kernel
theorem dX7_botFor_1 : decode cX7_botFor 1 = .ok (.istore_n 2, 1) := by decide +kernel
theorem dX7_botFor_2 : decode cX7_botFor 2 = .ok (.iload_n 2, 1) := by decide +kernel
theorem dX7_botFor_3 : decode cX7_botFor 3 = .ok (.aload_n 0, 1) := by decide +kernel
theorem dX7_botFor_4 : decode cX7_botFor 4 = .ok (.getfield 19, 3) := by decide +kernel
theorem dX7_botFor_7 : decode cX7_botFor 7 = .ok (.invokevirtual 52, 3) := by decide +kernel
theorem dX7_botFor_10 : decode cX7_botFor 10 = .ok (.if_icmp .ge 45, 3) := by decide +kernel
theorem dX7_botFor_13 : decode cX7_botFor 13 = .ok (.aload_n 0, 1) := by decide +kernel
theorem dX7_botFor_14 : decode cX7_botFor 14 = .ok (.getfield 19, 3) := by decide +kernel
theorem dX7_botFor_17 : decode cX7_botFor 17 = .ok (.iload_n 2, 1) := by decide +kernel
theorem dX7_botFor_18 : decode cX7_botFor 18 = .ok (.invokevirtual 117, 3) := by decide +kernel
theorem dX7_botFor_21 : decode cX7_botFor 21 = .ok (.checkcast 153, 3) := by decide +kernel
theorem dX7_botFor_24 : decode cX7_botFor 24 = .ok (.astore_n 3, 1) := by decide +kernel
theorem dX7_botFor_25 : decode cX7_botFor 25 = .ok (.aload_n 1, 1) := by decide +kernel
theorem dX7_botFor_26 : decode cX7_botFor 26 = .ok (.aload_n 3, 1) := by decide +kernel
theorem dX7_botFor_27 : decode cX7_botFor 27 = .ok (.getfield 337, 3) := by decide +kernel
theorem dX7_botFor_30 : decode cX7_botFor 30 = .ok (.invokevirtual 334, 3) := by decide +kernel
theorem dX7_botFor_33 : decode cX7_botFor 33 = .ok (.ifCond .eq 16, 3) := by decide +kernel
theorem dX7_botFor_36 : decode cX7_botFor 36 = .ok (.aload_n 3, 1) := by decide +kernel
theorem dX7_botFor_37 : decode cX7_botFor 37 = .ok (.getfield 160, 3) := by decide +kernel
theorem dX7_botFor_40 : decode cX7_botFor 40 = .ok (.aload_n 1, 1) := by decide +kernel
theorem dX7_botFor_41 : decode cX7_botFor 41 = .ok (.getfield 298, 3) := by decide +kernel
theorem dX7_botFor_44 : decode cX7_botFor 44 = .ok (.if_icmp .gt 5, 3) := by decide +kernel
theorem dX7_botFor_47 : decode cX7_botFor 47 = .ok (.aload_n 3, 1) := by decide +kernel
theorem dX7_botFor_48 : decode cX7_botFor 48 = .ok (.areturn, 1) := by decide +kernel
theorem dX7_botFor_49 : decode cX7_botFor 49 = .ok (.iinc 2 1, 3) := by decide +kernel
theorem dX7_botFor_52 : decode cX7_botFor 52 = .ok (.goto (-50), 3) := by decide +kernel
theorem dX7_botFor_55 : decode cX7_botFor 55 = .ok (.aconst_null, 1) := by decide +kernel
theorem dX7_botFor_56 : decode cX7_botFor 56 = .ok (.areturn, 1) := by decide +kernel
theorem dX7_commonKinds_0 : decode cX7_commonKinds 0 = .ok (.aload_n 0, 1) := by decide +kernel
theorem dX7_commonKinds_1 : decode cX7_commonKinds 1 = .ok (.getfield 338, 3) := by decide +kernel
theorem dX7_commonKinds_4 : decode cX7_commonKinds 4 = .ok (.aload_n 1, 1) := by decide +kernel
theorem dX7_commonKinds_5 : decode cX7_commonKinds 5 = .ok (.getfield 338, 3) := by decide +kernel
theorem dX7_commonKinds_8 : decode cX7_commonKinds 8 = .ok (.iand, 1) := by decide +kernel
theorem dX7_commonKinds_9 : decode cX7_commonKinds 9 = .ok (.invokestatic 341, 3) := by decide +kernel
theorem dX7_commonKinds_12 : decode cX7_commonKinds 12 = .ok (.ireturn, 1) := by decide +kernel
theorem dX7_precedentFor_0 : decode cX7_precedentFor 0 = .ok (.iconst (-1), 1) := by decide +kernel
theorem dX7_precedentFor_1 : decode cX7_precedentFor 1 = .ok (.istore_n 3, 1) := by decide +kernel
theorem dX7_precedentFor_2 : decode cX7_precedentFor 2 = .ok (.iconst 0, 1) := by decide +kernel
theorem dX7_precedentFor_3 : decode cX7_precedentFor 3 = .ok (.istore 4, 2) := by decide +kernel
theorem dX7_precedentFor_5 : decode cX7_precedentFor 5 = .ok (.iconst 0, 1) := by decide +kernel
theorem dX7_precedentFor_6 : decode cX7_precedentFor 6 = .ok (.istore 5, 2) := by decide +kernel
theorem dX7_precedentFor_8 : decode cX7_precedentFor 8 = .ok (.iload 5, 2) := by decide +kernel
theorem dX7_precedentFor_10 : decode cX7_precedentFor 10 = .ok (.aload_n 0, 1) := by decide +kernel
theorem dX7_precedentFor_11 : decode cX7_precedentFor 11 = .ok (.getfield 22, 3) := by decide +kernel
theorem dX7_precedentFor_14 : decode cX7_precedentFor 14 = .ok (.invokevirtual 52, 3) := by decide +kernel
theorem dX7_precedentFor_17 : decode cX7_precedentFor 17 = .ok (.if_icmp .ge 92, 3) := by decide +kernel
theorem dX7_precedentFor_20 : decode cX7_precedentFor 20 = .ok (.iload 5, 2) := by decide +kernel
theorem dX7_precedentFor_22 : decode cX7_precedentFor 22 = .ok (.aload_n 1, 1) := by decide +kernel
theorem dX7_precedentFor_23 : decode cX7_precedentFor 23 = .ok (.getfield 346, 3) := by decide +kernel
theorem dX7_precedentFor_26 : decode cX7_precedentFor 26 = .ok (.if_icmp .eq 77, 3) := by decide +kernel
theorem dX7_precedentFor_29 : decode cX7_precedentFor 29 = .ok (.aload_n 2, 1) := by decide +kernel
theorem dX7_precedentFor_30 : decode cX7_precedentFor 30 = .ok (.iload 5, 2) := by decide +kernel
theorem dX7_precedentFor_32 : decode cX7_precedentFor 32 = .ok (.invokevirtual 349, 3) := by decide +kernel
theorem dX7_precedentFor_35 : decode cX7_precedentFor 35 = .ok (.ifCond .ne 6, 3) := by decide +kernel
theorem dX7_precedentFor_38 : decode cX7_precedentFor 38 = .ok (.goto 65, 3) := by decide +kernel
theorem dX7_precedentFor_41 : decode cX7_precedentFor 41 = .ok (.aload_n 1, 1) := by decide +kernel
theorem dX7_precedentFor_42 : decode cX7_precedentFor 42 = .ok (.aload_n 0, 1) := by decide +kernel
theorem dX7_precedentFor_43 : decode cX7_precedentFor 43 = .ok (.getfield 22, 3) := by decide +kernel
theorem dX7_precedentFor_46 : decode cX7_precedentFor 46 = .ok (.iload 5, 2) := by decide +kernel
theorem dX7_precedentFor_48 : decode cX7_precedentFor 48 = .ok (.invokevirtual 117, 3) := by decide +kernel
theorem dX7_precedentFor_51 : decode cX7_precedentFor 51 = .ok (.checkcast 168, 3) := by decide +kernel
theorem dX7_precedentFor_54 : decode cX7_precedentFor 54 = .ok (.invokestatic 278, 3) := by decide +kernel
theorem dX7_precedentFor_57 : decode cX7_precedentFor 57 = .ok (.istore 6, 2) := by decide +kernel
theorem dX7_precedentFor_59 : decode cX7_precedentFor 59 = .ok (.iload 6, 2) := by decide +kernel
theorem dX7_precedentFor_61 : decode cX7_precedentFor 61 = .ok (.iconst 2, 1) := by decide +kernel
theorem dX7_precedentFor_62 : decode cX7_precedentFor 62 = .ok (.if_icmp .lt 41, 3) := by decide +kernel
theorem dX7_precedentFor_65 : decode cX7_precedentFor 65 = .ok (.iload 6, 2) := by decide +kernel
theorem dX7_precedentFor_67 : decode cX7_precedentFor 67 = .ok (.iload 4, 2) := by decide +kernel
theorem dX7_precedentFor_69 : decode cX7_precedentFor 69 = .ok (.if_icmp .ge 6, 3) := by decide +kernel
theorem dX7_precedentFor_72 : decode cX7_precedentFor 72 = .ok (.goto 31, 3) := by decide +kernel
theorem dX7_precedentFor_75 : decode cX7_precedentFor 75 = .ok (.iload 6, 2) := by decide +kernel
theorem dX7_precedentFor_77 : decode cX7_precedentFor 77 = .ok (.iload 4, 2) := by decide +kernel
theorem dX7_precedentFor_79 : decode cX7_precedentFor 79 = .ok (.if_icmp .gt 17, 3) := by decide +kernel
theorem dX7_precedentFor_82 : decode cX7_precedentFor 82 = .ok (.aload_n 2, 1) := by decide +kernel
theorem dX7_precedentFor_83 : decode cX7_precedentFor 83 = .ok (.iload 5, 2) := by decide +kernel
theorem dX7_precedentFor_85 : decode cX7_precedentFor 85 = .ok (.invokevirtual 352, 3) := by decide +kernel
theorem dX7_precedentFor_88 : decode cX7_precedentFor 88 = .ok (.aload_n 2, 1) := by decide +kernel
theorem dX7_precedentFor_89 : decode cX7_precedentFor 89 = .ok (.iload_n 3, 1) := by decide +kernel
theorem dX7_precedentFor_90 : decode cX7_precedentFor 90 = .ok (.invokevirtual 352, 3) := by decide +kernel
theorem dX7_precedentFor_93 : decode cX7_precedentFor 93 = .ok (.if_icmp .le 10, 3) := by decide +kernel
theorem dX7_precedentFor_96 : decode cX7_precedentFor 96 = .ok (.iload 5, 2) := by decide +kernel
theorem dX7_precedentFor_98 : decode cX7_precedentFor 98 = .ok (.istore_n 3, 1) := by decide +kernel
theorem dX7_precedentFor_99 : decode cX7_precedentFor 99 = .ok (.iload 6, 2) := by decide +kernel
theorem dX7_precedentFor_101 : decode cX7_precedentFor 101 = .ok (.istore 4, 2) := by decide +kernel
theorem dX7_precedentFor_103 : decode cX7_precedentFor 103 = .ok (.iinc 5 1, 3) := by decide +kernel
theorem dX7_precedentFor_106 : decode cX7_precedentFor 106 = .ok (.goto (-98), 3) := by decide +kernel
theorem dX7_precedentFor_109 : decode cX7_precedentFor 109 = .ok (.iload_n 3, 1) := by decide +kernel
theorem dX7_precedentFor_110 : decode cX7_precedentFor 110 = .ok (.ireturn, 1) := by decide +kernel
theorem dX7_findOutcome_0 : decode cX7_findOutcome 0 = .ok (.aload_n 0, 1) := by decide +kernel
theorem dX7_findOutcome_1 : decode cX7_findOutcome 1 = .ok (.aload_n 1, 1) := by decide +kernel
theorem dX7_findOutcome_2 : decode cX7_findOutcome 2 = .ok (.invokevirtual 108, 3) := by decide +kernel
theorem dX7_findOutcome_5 : decode cX7_findOutcome 5 = .ok (.istore 5, 2) := by decide +kernel
theorem dX7_findOutcome_7 : decode cX7_findOutcome 7 = .ok (.iload 5, 2) := by decide +kernel
theorem dX7_findOutcome_9 : decode cX7_findOutcome 9 = .ok (.ifCond .lt 15, 3) := by decide +kernel
theorem dX7_findOutcome_12 : decode cX7_findOutcome 12 = .ok (.iload 5, 2) := by decide +kernel
theorem dX7_findOutcome_14 : decode cX7_findOutcome 14 = .ok (.aload_n 0, 1) := by decide +kernel
theorem dX7_findOutcome_15 : decode cX7_findOutcome 15 = .ok (.getfield 10, 3) := by decide +kernel
theorem dX7_findOutcome_18 : decode cX7_findOutcome 18 = .ok (.invokevirtual 52, 3) := by decide +kernel
theorem dX7_findOutcome_21 : decode cX7_findOutcome 21 = .ok (.if_icmp .lt 6, 3) := by decide +kernel
theorem dX7_findOutcome_24 : decode cX7_findOutcome 24 = .ok (.bipush 110, 2) := by decide +kernel
theorem dX7_findOutcome_26 : decode cX7_findOutcome 26 = .ok (.ireturn, 1) := by decide +kernel
theorem dX7_findOutcome_27 : decode cX7_findOutcome 27 = .ok (.aload_n 0, 1) := by decide +kernel
theorem dX7_findOutcome_28 : decode cX7_findOutcome 28 = .ok (.getfield 10, 3) := by decide +kernel
theorem dX7_findOutcome_31 : decode cX7_findOutcome 31 = .ok (.iload 5, 2) := by decide +kernel
theorem dX7_findOutcome_33 : decode cX7_findOutcome 33 = .ok (.invokevirtual 117, 3) := by decide +kernel
theorem dX7_findOutcome_36 : decode cX7_findOutcome 36 = .ok (.checkcast 60, 3) := by decide +kernel
theorem dX7_findOutcome_39 : decode cX7_findOutcome 39 = .ok (.getfield 328, 3) := by decide +kernel
theorem dX7_findOutcome_42 : decode cX7_findOutcome 42 = .ok (.ifCond .ne 6, 3) := by decide +kernel
theorem dX7_findOutcome_45 : decode cX7_findOutcome 45 = .ok (.bipush 119, 2) := by decide +kernel
theorem dX7_findOutcome_47 : decode cX7_findOutcome 47 = .ok (.ireturn, 1) := by decide +kernel
theorem dX7_findOutcome_48 : decode cX7_findOutcome 48 = .ok (.aload 4, 2) := by decide +kernel
theorem dX7_findOutcome_50 : decode cX7_findOutcome 50 = .ok (.aload_n 0, 1) := by decide +kernel
theorem dX7_findOutcome_51 : decode cX7_findOutcome 51 = .ok (.aload_n 1, 1) := by decide +kernel
theorem dX7_findOutcome_52 : decode cX7_findOutcome 52 = .ok (.aload 4, 2) := by decide +kernel
theorem dX7_findOutcome_54 : decode cX7_findOutcome 54 = .ok (.invokevirtual 215, 3) := by decide +kernel
theorem dX7_findOutcome_57 : decode cX7_findOutcome 57 = .ok (.invokevirtual 230, 3) := by decide +kernel
theorem dX7_findOutcome_60 : decode cX7_findOutcome 60 = .ok (.istore 6, 2) := by decide +kernel
theorem dX7_findOutcome_62 : decode cX7_findOutcome 62 = .ok (.iload_n 2, 1) := by decide +kernel
theorem dX7_findOutcome_63 : decode cX7_findOutcome 63 = .ok (.iload 6, 2) := by decide +kernel
theorem dX7_findOutcome_65 : decode cX7_findOutcome 65 = .ok (.bipush 103, 2) := by decide +kernel
theorem dX7_findOutcome_67 : decode cX7_findOutcome 67 = .ok (.if_icmp .ne 7, 3) := by decide +kernel
theorem dX7_findOutcome_70 : decode cX7_findOutcome 70 = .ok (.iconst 5, 1) := by decide +kernel
theorem dX7_findOutcome_71 : decode cX7_findOutcome 71 = .ok (.goto 4, 3) := by decide +kernel
theorem dX7_findOutcome_74 : decode cX7_findOutcome 74 = .ok (.iconst 0, 1) := by decide +kernel
theorem dX7_findOutcome_75 : decode cX7_findOutcome 75 = .ok (.iadd, 1) := by decide +kernel
theorem dX7_findOutcome_76 : decode cX7_findOutcome 76 = .ok (.istore 7, 2) := by decide +kernel
theorem dX7_findOutcome_78 : decode cX7_findOutcome 78 = .ok (.iload_n 3, 1) := by decide +kernel
theorem dX7_findOutcome_79 : decode cX7_findOutcome 79 = .ok (.iload 6, 2) := by decide +kernel
theorem dX7_findOutcome_81 : decode cX7_findOutcome 81 = .ok (.bipush 105, 2) := by decide +kernel
theorem dX7_findOutcome_83 : decode cX7_findOutcome 83 = .ok (.if_icmp .ne 7, 3) := by decide +kernel
theorem dX7_findOutcome_86 : decode cX7_findOutcome 86 = .ok (.iconst 5, 1) := by decide +kernel
theorem dX7_findOutcome_87 : decode cX7_findOutcome 87 = .ok (.goto 4, 3) := by decide +kernel
theorem dX7_findOutcome_90 : decode cX7_findOutcome 90 = .ok (.iconst 0, 1) := by decide +kernel
theorem dX7_findOutcome_91 : decode cX7_findOutcome 91 = .ok (.iadd, 1) := by decide +kernel
theorem dX7_findOutcome_92 : decode cX7_findOutcome 92 = .ok (.istore 8, 2) := by decide +kernel
theorem dX7_findOutcome_94 : decode cX7_findOutcome 94 = .ok (.iload 7, 2) := by decide +kernel
theorem dX7_findOutcome_96 : decode cX7_findOutcome 96 = .ok (.iload 8, 2) := by decide +kernel
theorem dX7_findOutcome_98 : decode cX7_findOutcome 98 = .ok (.if_icmp .le 8, 3) := by decide +kernel
theorem dX7_findOutcome_101 : decode cX7_findOutcome 101 = .ok (.bipush 103, 2) := by decide +kernel
theorem dX7_findOutcome_103 : decode cX7_findOutcome 103 = .ok (.goto 5, 3) := by decide +kernel
theorem dX7_findOutcome_106 : decode cX7_findOutcome 106 = .ok (.bipush 105, 2) := by decide +kernel
theorem dX7_findOutcome_108 : decode cX7_findOutcome 108 = .ok (.ireturn, 1) := by decide +kernel
theorem dX7_settle_0 : decode cX7_settle 0 = .ok (.aload_n 0, 1) := by decide +kernel
theorem dX7_settle_1 : decode cX7_settle 1 = .ok (.aload_n 1, 1) := by decide +kernel
theorem dX7_settle_2 : decode cX7_settle 2 = .ok (.iload_n 2, 1) := by decide +kernel
theorem dX7_settle_3 : decode cX7_settle 3 = .ok (.iload_n 3, 1) := by decide +kernel
theorem dX7_settle_4 : decode cX7_settle 4 = .ok (.aload_n 0, 1) := by decide +kernel
theorem dX7_settle_5 : decode cX7_settle 5 = .ok (.getfield 34, 3) := by decide +kernel
theorem dX7_settle_8 : decode cX7_settle 8 = .ok (.invokevirtual 355, 3) := by decide +kernel
theorem dX7_settle_11 : decode cX7_settle 11 = .ok (.istore 4, 2) := by decide +kernel
theorem dX7_settle_13 : decode cX7_settle 13 = .ok (.aload_n 0, 1) := by decide +kernel
theorem dX7_settle_14 : decode cX7_settle 14 = .ok (.getfield 34, 3) := by decide +kernel
theorem dX7_settle_17 : decode cX7_settle 17 = .ok (.aload_n 1, 1) := by decide +kernel
theorem dX7_settle_18 : decode cX7_settle 18 = .ok (.getfield 346, 3) := by decide +kernel
theorem dX7_settle_21 : decode cX7_settle 21 = .ok (.iload 4, 2) := by decide +kernel
theorem dX7_settle_23 : decode cX7_settle 23 = .ok (.invokevirtual 359, 3) := by decide +kernel
theorem dX7_settle_26 : decode cX7_settle 26 = .ok (.aload_n 0, 1) := by decide +kernel
theorem dX7_settle_27 : decode cX7_settle 27 = .ok (.getfield 28, 3) := by decide +kernel
theorem dX7_settle_30 : decode cX7_settle 30 = .ok (.new 254, 3) := by decide +kernel
theorem dX7_settle_33 : decode cX7_settle 33 = .ok (.dup, 1) := by decide +kernel
theorem dX7_settle_34 : decode cX7_settle 34 = .ok (.aload_n 1, 1) := by decide +kernel
theorem dX7_settle_35 : decode cX7_settle 35 = .ok (.iconst 0, 1) := by decide +kernel
theorem dX7_settle_36 : decode cX7_settle 36 = .ok (.iload_n 2, 1) := by decide +kernel
theorem dX7_settle_37 : decode cX7_settle 37 = .ok (.iload_n 3, 1) := by decide +kernel
theorem dX7_settle_38 : decode cX7_settle 38 = .ok (.invokespecial 256, 3) := by decide +kernel
theorem dX7_settle_41 : decode cX7_settle 41 = .ok (.invokevirtual 65, 3) := by decide +kernel
theorem dX7_settle_44 : decode cX7_settle 44 = .ok (.pop, 1) := by decide +kernel
theorem dX7_settle_45 : decode cX7_settle 45 = .ok (.aload_n 1, 1) := by decide +kernel
theorem dX7_settle_46 : decode cX7_settle 46 = .ok (.bipush 100, 2) := by decide +kernel
theorem dX7_settle_48 : decode cX7_settle 48 = .ok (.putfield 185, 3) := by decide +kernel
theorem dX7_settle_51 : decode cX7_settle 51 = .ok (.iload 4, 2) := by decide +kernel
theorem dX7_settle_53 : decode cX7_settle 53 = .ok (.bipush 103, 2) := by decide +kernel
theorem dX7_settle_55 : decode cX7_settle 55 = .ok (.if_icmp .ne 8, 3) := by decide +kernel
theorem dX7_settle_58 : decode cX7_settle 58 = .ok (.aload_n 0, 1) := by decide +kernel
theorem dX7_settle_59 : decode cX7_settle 59 = .ok (.aload_n 1, 1) := by decide +kernel
theorem dX7_settle_60 : decode cX7_settle 60 = .ok (.invokevirtual 363, 3) := by decide +kernel
theorem dX7_settle_63 : decode cX7_settle 63 = .ok (.iload 4, 2) := by decide +kernel
theorem dX7_settle_65 : decode cX7_settle 65 = .ok (.ireturn, 1) := by decide +kernel
theorem dX7_sanctionAccused_0 : decode cX7_sanctionAccused 0 = .ok (.aload_n 0, 1) := by decide +kernel
theorem dX7_sanctionAccused_1 : decode cX7_sanctionAccused 1 = .ok (.aload_n 1, 1) := by decide +kernel
theorem dX7_sanctionAccused_2 : decode cX7_sanctionAccused 2 = .ok (.invokevirtual 108, 3) := by decide +kernel
theorem dX7_sanctionAccused_5 : decode cX7_sanctionAccused 5 = .ok (.istore_n 2, 1) := by decide +kernel
theorem dX7_sanctionAccused_6 : decode cX7_sanctionAccused 6 = .ok (.iload_n 2, 1) := by decide +kernel
theorem dX7_sanctionAccused_7 : decode cX7_sanctionAccused 7 = .ok (.ifCond .lt 14, 3) := by decide +kernel
theorem dX7_sanctionAccused_10 : decode cX7_sanctionAccused 10 = .ok (.iload_n 2, 1) := by decide +kernel
theorem dX7_sanctionAccused_11 : decode cX7_sanctionAccused 11 = .ok (.aload_n 0, 1) := by decide +kernel
theorem dX7_sanctionAccused_12 : decode cX7_sanctionAccused 12 = .ok (.getfield 10, 3) := by decide +kernel
theorem dX7_sanctionAccused_15 : decode cX7_sanctionAccused 15 = .ok (.invokevirtual 52, 3) := by decide +kernel
theorem dX7_sanctionAccused_18 : decode cX7_sanctionAccused 18 = .ok (.if_icmp .lt 4, 3) := by decide +kernel
theorem dX7_sanctionAccused_21 : decode cX7_sanctionAccused 21 = .ok (.return_, 1) := by decide +kernel
theorem dX7_sanctionAccused_22 : decode cX7_sanctionAccused 22 = .ok (.aload_n 0, 1) := by decide +kernel
theorem dX7_sanctionAccused_23 : decode cX7_sanctionAccused 23 = .ok (.getfield 41, 3) := by decide +kernel
theorem dX7_sanctionAccused_26 : decode cX7_sanctionAccused 26 = .ok (.aload_n 0, 1) := by decide +kernel
theorem dX7_sanctionAccused_27 : decode cX7_sanctionAccused 27 = .ok (.getfield 10, 3) := by decide +kernel
theorem dX7_sanctionAccused_30 : decode cX7_sanctionAccused 30 = .ok (.iload_n 2, 1) := by decide +kernel
theorem dX7_sanctionAccused_31 : decode cX7_sanctionAccused 31 = .ok (.invokevirtual 117, 3) := by decide +kernel
theorem dX7_sanctionAccused_34 : decode cX7_sanctionAccused 34 = .ok (.checkcast 60, 3) := by decide +kernel
theorem dX7_sanctionAccused_37 : decode cX7_sanctionAccused 37 = .ok (.getfield 366, 3) := by decide +kernel
theorem dX7_sanctionAccused_40 : decode cX7_sanctionAccused 40 = .ok (.iadd, 1) := by decide +kernel
theorem dX7_sanctionAccused_41 : decode cX7_sanctionAccused 41 = .ok (.istore_n 3, 1) := by decide +kernel
theorem dX7_sanctionAccused_42 : decode cX7_sanctionAccused 42 = .ok (.aload_n 1, 1) := by decide +kernel
theorem dX7_sanctionAccused_43 : decode cX7_sanctionAccused 43 = .ok (.new 143, 3) := by decide +kernel
theorem dX7_sanctionAccused_46 : decode cX7_sanctionAccused 46 = .ok (.dup, 1) := by decide +kernel
theorem dX7_sanctionAccused_47 : decode cX7_sanctionAccused 47 = .ok (.aload_n 1, 1) := by decide +kernel
theorem dX7_sanctionAccused_48 : decode cX7_sanctionAccused 48 = .ok (.getfield 196, 3) := by decide +kernel
theorem dX7_sanctionAccused_51 : decode cX7_sanctionAccused 51 = .ok (.aload_n 0, 1) := by decide +kernel
theorem dX7_sanctionAccused_52 : decode cX7_sanctionAccused 52 = .ok (.getfield 41, 3) := by decide +kernel
theorem dX7_sanctionAccused_55 : decode cX7_sanctionAccused 55 = .ok (.iload_n 3, 1) := by decide +kernel
theorem dX7_sanctionAccused_56 : decode cX7_sanctionAccused 56 = .ok (.invokespecial 369, 3) := by decide +kernel
theorem dX7_sanctionAccused_59 : decode cX7_sanctionAccused 59 = .ok (.putfield 259, 3) := by decide +kernel
theorem dX7_sanctionAccused_62 : decode cX7_sanctionAccused 62 = .ok (.aload_n 0, 1) := by decide +kernel
theorem dX7_sanctionAccused_63 : decode cX7_sanctionAccused 63 = .ok (.getfield 25, 3) := by decide +kernel
theorem dX7_sanctionAccused_66 : decode cX7_sanctionAccused 66 = .ok (.aload_n 1, 1) := by decide +kernel
theorem dX7_sanctionAccused_67 : decode cX7_sanctionAccused 67 = .ok (.getfield 259, 3) := by decide +kernel
theorem dX7_sanctionAccused_70 : decode cX7_sanctionAccused 70 = .ok (.invokevirtual 65, 3) := by decide +kernel
theorem dX7_sanctionAccused_73 : decode cX7_sanctionAccused 73 = .ok (.pop, 1) := by decide +kernel
theorem dX7_sanctionAccused_74 : decode cX7_sanctionAccused 74 = .ok (.return_, 1) := by decide +kernel
theorem dX7_closeAppeal_0 : decode cX7_closeAppeal 0 = .ok (.aload_n 0, 1) := by decide +kernel
theorem dX7_closeAppeal_1 : decode cX7_closeAppeal 1 = .ok (.iload_n 1, 1) := by decide +kernel
theorem dX7_closeAppeal_2 : decode cX7_closeAppeal 2 = .ok (.aload_n 0, 1) := by decide +kernel
theorem dX7_closeAppeal_3 : decode cX7_closeAppeal 3 = .ok (.getfield 248, 3) := by decide +kernel
theorem dX7_closeAppeal_6 : decode cX7_closeAppeal 6 = .ok (.if_icmp .eq 7, 3) := by decide +kernel
theorem dX7_closeAppeal_9 : decode cX7_closeAppeal 9 = .ok (.iconst 1, 1) := by decide +kernel
theorem dX7_closeAppeal_10 : decode cX7_closeAppeal 10 = .ok (.goto 4, 3) := by decide +kernel
theorem dX7_closeAppeal_13 : decode cX7_closeAppeal 13 = .ok (.iconst 0, 1) := by decide +kernel
theorem dX7_closeAppeal_14 : decode cX7_closeAppeal 14 = .ok (.putfield 270, 3) := by decide +kernel
theorem dX7_closeAppeal_17 : decode cX7_closeAppeal 17 = .ok (.aload_n 0, 1) := by decide +kernel
theorem dX7_closeAppeal_18 : decode cX7_closeAppeal 18 = .ok (.getfield 177, 3) := by decide +kernel
theorem dX7_closeAppeal_21 : decode cX7_closeAppeal 21 = .ok (.ifnull 23, 3) := by decide +kernel
theorem dX7_closeAppeal_24 : decode cX7_closeAppeal 24 = .ok (.aload_n 0, 1) := by decide +kernel
theorem dX7_closeAppeal_25 : decode cX7_closeAppeal 25 = .ok (.getfield 248, 3) := by decide +kernel
theorem dX7_closeAppeal_28 : decode cX7_closeAppeal 28 = .ok (.bipush 103, 2) := by decide +kernel
theorem dX7_closeAppeal_30 : decode cX7_closeAppeal 30 = .ok (.if_icmp .ne 14, 3) := by decide +kernel
theorem dX7_closeAppeal_33 : decode cX7_closeAppeal 33 = .ok (.aload_n 0, 1) := by decide +kernel
theorem dX7_closeAppeal_34 : decode cX7_closeAppeal 34 = .ok (.getfield 177, 3) := by decide +kernel
theorem dX7_closeAppeal_37 : decode cX7_closeAppeal 37 = .ok (.aload_n 0, 1) := by decide +kernel
theorem dX7_closeAppeal_38 : decode cX7_closeAppeal 38 = .ok (.getfield 270, 3) := by decide +kernel
theorem dX7_closeAppeal_41 : decode cX7_closeAppeal 41 = .ok (.invokevirtual 372, 3) := by decide +kernel
theorem dX7_closeAppeal_44 : decode cX7_closeAppeal 44 = .ok (.return_, 1) := by decide +kernel
theorem dX7_settleAllAnew_0 : decode cX7_settleAllAnew 0 = .ok (.aload_n 0, 1) := by decide +kernel
theorem dX7_settleAllAnew_1 : decode cX7_settleAllAnew 1 = .ok (.getfield 38, 3) := by decide +kernel
theorem dX7_settleAllAnew_4 : decode cX7_settleAllAnew 4 = .ok (.invokevirtual 376, 3) := by decide +kernel
theorem dX7_settleAllAnew_7 : decode cX7_settleAllAnew 7 = .ok (.iconst 0, 1) := by decide +kernel
theorem dX7_settleAllAnew_8 : decode cX7_settleAllAnew 8 = .ok (.istore_n 1, 1) := by decide +kernel
theorem dX7_settleAllAnew_9 : decode cX7_settleAllAnew 9 = .ok (.iload_n 1, 1) := by decide +kernel
theorem dX7_settleAllAnew_10 : decode cX7_settleAllAnew 10 = .ok (.aload_n 0, 1) := by decide +kernel
theorem dX7_settleAllAnew_11 : decode cX7_settleAllAnew 11 = .ok (.getfield 28, 3) := by decide +kernel
theorem dX7_settleAllAnew_14 : decode cX7_settleAllAnew 14 = .ok (.invokevirtual 52, 3) := by decide +kernel
theorem dX7_settleAllAnew_17 : decode cX7_settleAllAnew 17 = .ok (.if_icmp .ge 75, 3) := by decide +kernel
theorem dX7_settleAllAnew_20 : decode cX7_settleAllAnew 20 = .ok (.aload_n 0, 1) := by decide +kernel
theorem dX7_settleAllAnew_21 : decode cX7_settleAllAnew 21 = .ok (.getfield 28, 3) := by decide +kernel
theorem dX7_settleAllAnew_24 : decode cX7_settleAllAnew 24 = .ok (.iload_n 1, 1) := by decide +kernel
theorem dX7_settleAllAnew_25 : decode cX7_settleAllAnew 25 = .ok (.invokevirtual 117, 3) := by decide +kernel
theorem dX7_settleAllAnew_28 : decode cX7_settleAllAnew 28 = .ok (.checkcast 254, 3) := by decide +kernel
theorem dX7_settleAllAnew_31 : decode cX7_settleAllAnew 31 = .ok (.astore_n 2, 1) := by decide +kernel
theorem dX7_settleAllAnew_32 : decode cX7_settleAllAnew 32 = .ok (.aload_n 2, 1) := by decide +kernel
theorem dX7_settleAllAnew_33 : decode cX7_settleAllAnew 33 = .ok (.getfield 379, 3) := by decide +kernel
theorem dX7_settleAllAnew_36 : decode cX7_settleAllAnew 36 = .ok (.astore_n 3, 1) := by decide +kernel
theorem dX7_settleAllAnew_37 : decode cX7_settleAllAnew 37 = .ok (.aload_n 2, 1) := by decide +kernel
theorem dX7_settleAllAnew_38 : decode cX7_settleAllAnew 38 = .ok (.getfield 383, 3) := by decide +kernel
theorem dX7_settleAllAnew_41 : decode cX7_settleAllAnew 41 = .ok (.ifCond .eq 17, 3) := by decide +kernel
theorem dX7_settleAllAnew_44 : decode cX7_settleAllAnew 44 = .ok (.aload_n 0, 1) := by decide +kernel
theorem dX7_settleAllAnew_45 : decode cX7_settleAllAnew 45 = .ok (.getfield 38, 3) := by decide +kernel
theorem dX7_settleAllAnew_48 : decode cX7_settleAllAnew 48 = .ok (.aload_n 3, 1) := by decide +kernel
theorem dX7_settleAllAnew_49 : decode cX7_settleAllAnew 49 = .ok (.getfield 346, 3) := by decide +kernel
theorem dX7_settleAllAnew_52 : decode cX7_settleAllAnew 52 = .ok (.invokevirtual 251, 3) := by decide +kernel
theorem dX7_settleAllAnew_55 : decode cX7_settleAllAnew 55 = .ok (.goto 31, 3) := by decide +kernel
theorem dX7_settleAllAnew_58 : decode cX7_settleAllAnew 58 = .ok (.aload_n 0, 1) := by decide +kernel
theorem dX7_settleAllAnew_59 : decode cX7_settleAllAnew 59 = .ok (.getfield 38, 3) := by decide +kernel
theorem dX7_settleAllAnew_62 : decode cX7_settleAllAnew 62 = .ok (.aload_n 3, 1) := by decide +kernel
theorem dX7_settleAllAnew_63 : decode cX7_settleAllAnew 63 = .ok (.getfield 346, 3) := by decide +kernel
theorem dX7_settleAllAnew_66 : decode cX7_settleAllAnew 66 = .ok (.aload_n 0, 1) := by decide +kernel
theorem dX7_settleAllAnew_67 : decode cX7_settleAllAnew 67 = .ok (.aload_n 3, 1) := by decide +kernel
theorem dX7_settleAllAnew_68 : decode cX7_settleAllAnew 68 = .ok (.aload_n 2, 1) := by decide +kernel
theorem dX7_settleAllAnew_69 : decode cX7_settleAllAnew 69 = .ok (.getfield 386, 3) := by decide +kernel
theorem dX7_settleAllAnew_72 : decode cX7_settleAllAnew 72 = .ok (.aload_n 2, 1) := by decide +kernel
theorem dX7_settleAllAnew_73 : decode cX7_settleAllAnew 73 = .ok (.getfield 388, 3) := by decide +kernel
theorem dX7_settleAllAnew_76 : decode cX7_settleAllAnew 76 = .ok (.aload_n 0, 1) := by decide +kernel
theorem dX7_settleAllAnew_77 : decode cX7_settleAllAnew 77 = .ok (.getfield 38, 3) := by decide +kernel
theorem dX7_settleAllAnew_80 : decode cX7_settleAllAnew 80 = .ok (.invokevirtual 355, 3) := by decide +kernel
theorem dX7_settleAllAnew_83 : decode cX7_settleAllAnew 83 = .ok (.invokevirtual 359, 3) := by decide +kernel
theorem dX7_settleAllAnew_86 : decode cX7_settleAllAnew 86 = .ok (.iinc 1 1, 3) := by decide +kernel
theorem dX7_settleAllAnew_89 : decode cX7_settleAllAnew 89 = .ok (.goto (-80), 3) := by decide +kernel
theorem dX7_settleAllAnew_92 : decode cX7_settleAllAnew 92 = .ok (.return_, 1) := by decide +kernel
theorem dX7_presentSanctions_0 : decode cX7_presentSanctions 0 = .ok (.iconst 0, 1) := by decide +kernel
theorem dX7_presentSanctions_1 : decode cX7_presentSanctions 1 = .ok (.istore_n 2, 1) := by decide +kernel
theorem dX7_presentSanctions_2 : decode cX7_presentSanctions 2 = .ok (.iconst 0, 1) := by decide +kernel
theorem dX7_presentSanctions_3 : decode cX7_presentSanctions 3 = .ok (.istore_n 3, 1) := by decide +kernel
theorem dX7_presentSanctions_4 : decode cX7_presentSanctions 4 = .ok (.iload_n 3, 1) := by decide +kernel
theorem dX7_presentSanctions_5 : decode cX7_presentSanctions 5 = .ok (.aload_n 0, 1) := by decide +kernel
theorem dX7_presentSanctions_6 : decode cX7_presentSanctions 6 = .ok (.getfield 25, 3) := by decide +kernel
theorem dX7_presentSanctions_9 : decode cX7_presentSanctions 9 = .ok (.invokevirtual 52, 3) := by decide +kernel
theorem dX7_presentSanctions_12 : decode cX7_presentSanctions 12 = .ok (.if_icmp .ge 46, 3) := by decide +kernel
theorem dX7_presentSanctions_15 : decode cX7_presentSanctions 15 = .ok (.aload_n 0, 1) := by decide +kernel
theorem dX7_presentSanctions_16 : decode cX7_presentSanctions 16 = .ok (.getfield 25, 3) := by decide +kernel
theorem dX7_presentSanctions_19 : decode cX7_presentSanctions 19 = .ok (.iload_n 3, 1) := by decide +kernel
theorem dX7_presentSanctions_20 : decode cX7_presentSanctions 20 = .ok (.invokevirtual 117, 3) := by decide +kernel
theorem dX7_presentSanctions_23 : decode cX7_presentSanctions 23 = .ok (.checkcast 143, 3) := by decide +kernel
theorem dX7_presentSanctions_26 : decode cX7_presentSanctions 26 = .ok (.astore 4, 2) := by decide +kernel
theorem dX7_presentSanctions_28 : decode cX7_presentSanctions 28 = .ok (.aload 4, 2) := by decide +kernel
theorem dX7_presentSanctions_30 : decode cX7_presentSanctions 30 = .ok (.getfield 145, 3) := by decide +kernel
theorem dX7_presentSanctions_33 : decode cX7_presentSanctions 33 = .ok (.aload_n 1, 1) := by decide +kernel
theorem dX7_presentSanctions_34 : decode cX7_presentSanctions 34 = .ok (.if_acmp .ne 18, 3) := by decide +kernel
theorem dX7_presentSanctions_37 : decode cX7_presentSanctions 37 = .ok (.aload 4, 2) := by decide +kernel
theorem dX7_presentSanctions_39 : decode cX7_presentSanctions 39 = .ok (.aload_n 0, 1) := by decide +kernel
theorem dX7_presentSanctions_40 : decode cX7_presentSanctions 40 = .ok (.getfield 41, 3) := by decide +kernel
theorem dX7_presentSanctions_43 : decode cX7_presentSanctions 43 = .ok (.invokevirtual 149, 3) := by decide +kernel
theorem dX7_presentSanctions_46 : decode cX7_presentSanctions 46 = .ok (.ifCond .eq 6, 3) := by decide +kernel
theorem dX7_presentSanctions_49 : decode cX7_presentSanctions 49 = .ok (.iinc 2 1, 3) := by decide +kernel
theorem dX7_presentSanctions_52 : decode cX7_presentSanctions 52 = .ok (.iinc 3 1, 3) := by decide +kernel
theorem dX7_presentSanctions_55 : decode cX7_presentSanctions 55 = .ok (.goto (-51), 3) := by decide +kernel
theorem dX7_presentSanctions_58 : decode cX7_presentSanctions 58 = .ok (.iload_n 2, 1) := by decide +kernel
theorem dX7_presentSanctions_59 : decode cX7_presentSanctions 59 = .ok (.ireturn, 1) := by decide +kernel
theorem dX7_reportsInState_0 : decode cX7_reportsInState 0 = .ok (.iconst 0, 1) := by decide +kernel
theorem dX7_reportsInState_1 : decode cX7_reportsInState 1 = .ok (.istore_n 2, 1) := by decide +kernel
theorem dX7_reportsInState_2 : decode cX7_reportsInState 2 = .ok (.iconst 0, 1) := by decide +kernel
theorem dX7_reportsInState_3 : decode cX7_reportsInState 3 = .ok (.istore_n 3, 1) := by decide +kernel
theorem dX7_reportsInState_4 : decode cX7_reportsInState 4 = .ok (.iload_n 3, 1) := by decide +kernel
theorem dX7_reportsInState_5 : decode cX7_reportsInState 5 = .ok (.aload_n 0, 1) := by decide +kernel
theorem dX7_reportsInState_6 : decode cX7_reportsInState 6 = .ok (.getfield 22, 3) := by decide +kernel
theorem dX7_reportsInState_9 : decode cX7_reportsInState 9 = .ok (.invokevirtual 52, 3) := by decide +kernel
theorem dX7_reportsInState_12 : decode cX7_reportsInState 12 = .ok (.if_icmp .ge 30, 3) := by decide +kernel
theorem dX7_reportsInState_15 : decode cX7_reportsInState 15 = .ok (.aload_n 0, 1) := by decide +kernel
theorem dX7_reportsInState_16 : decode cX7_reportsInState 16 = .ok (.getfield 22, 3) := by decide +kernel
theorem dX7_reportsInState_19 : decode cX7_reportsInState 19 = .ok (.iload_n 3, 1) := by decide +kernel
theorem dX7_reportsInState_20 : decode cX7_reportsInState 20 = .ok (.invokevirtual 117, 3) := by decide +kernel
theorem dX7_reportsInState_23 : decode cX7_reportsInState 23 = .ok (.checkcast 168, 3) := by decide +kernel
theorem dX7_reportsInState_26 : decode cX7_reportsInState 26 = .ok (.getfield 185, 3) := by decide +kernel
theorem dX7_reportsInState_29 : decode cX7_reportsInState 29 = .ok (.iload_n 1, 1) := by decide +kernel
theorem dX7_reportsInState_30 : decode cX7_reportsInState 30 = .ok (.if_icmp .ne 6, 3) := by decide +kernel
theorem dX7_reportsInState_33 : decode cX7_reportsInState 33 = .ok (.iinc 2 1, 3) := by decide +kernel
theorem dX7_reportsInState_36 : decode cX7_reportsInState 36 = .ok (.iinc 3 1, 3) := by decide +kernel
theorem dX7_reportsInState_39 : decode cX7_reportsInState 39 = .ok (.goto (-35), 3) := by decide +kernel
theorem dX7_reportsInState_42 : decode cX7_reportsInState 42 = .ok (.iload_n 2, 1) := by decide +kernel
theorem dX7_reportsInState_43 : decode cX7_reportsInState 43 = .ok (.ireturn, 1) := by decide +kernel
theorem dX7_guiltyReports_0 : decode cX7_guiltyReports 0 = .ok (.iconst 0, 1) := by decide +kernel
theorem dX7_guiltyReports_1 : decode cX7_guiltyReports 1 = .ok (.istore_n 1, 1) := by decide +kernel
theorem dX7_guiltyReports_2 : decode cX7_guiltyReports 2 = .ok (.iconst 0, 1) := by decide +kernel
theorem dX7_guiltyReports_3 : decode cX7_guiltyReports 3 = .ok (.istore_n 2, 1) := by decide +kernel
theorem dX7_guiltyReports_4 : decode cX7_guiltyReports 4 = .ok (.iload_n 2, 1) := by decide +kernel
theorem dX7_guiltyReports_5 : decode cX7_guiltyReports 5 = .ok (.aload_n 0, 1) := by decide +kernel
theorem dX7_guiltyReports_6 : decode cX7_guiltyReports 6 = .ok (.getfield 22, 3) := by decide +kernel
theorem dX7_guiltyReports_9 : decode cX7_guiltyReports 9 = .ok (.invokevirtual 52, 3) := by decide +kernel
theorem dX7_guiltyReports_12 : decode cX7_guiltyReports 12 = .ok (.if_icmp .ge 25, 3) := by decide +kernel
theorem dX7_guiltyReports_15 : decode cX7_guiltyReports 15 = .ok (.aload_n 0, 1) := by decide +kernel
theorem dX7_guiltyReports_16 : decode cX7_guiltyReports 16 = .ok (.getfield 34, 3) := by decide +kernel
theorem dX7_guiltyReports_19 : decode cX7_guiltyReports 19 = .ok (.iload_n 2, 1) := by decide +kernel
theorem dX7_guiltyReports_20 : decode cX7_guiltyReports 20 = .ok (.invokevirtual 230, 3) := by decide +kernel
theorem dX7_guiltyReports_23 : decode cX7_guiltyReports 23 = .ok (.bipush 103, 2) := by decide +kernel
theorem dX7_guiltyReports_25 : decode cX7_guiltyReports 25 = .ok (.if_icmp .ne 6, 3) := by decide +kernel
theorem dX7_guiltyReports_28 : decode cX7_guiltyReports 28 = .ok (.iinc 1 1, 3) := by decide +kernel
theorem dX7_guiltyReports_31 : decode cX7_guiltyReports 31 = .ok (.iinc 2 1, 3) := by decide +kernel
theorem dX7_guiltyReports_34 : decode cX7_guiltyReports 34 = .ok (.goto (-30), 3) := by decide +kernel
theorem dX7_guiltyReports_37 : decode cX7_guiltyReports 37 = .ok (.iload_n 1, 1) := by decide +kernel
theorem dX7_guiltyReports_38 : decode cX7_guiltyReports 38 = .ok (.ireturn, 1) := by decide +kernel
theorem dX7_reportsByBots_0 : decode cX7_reportsByBots 0 = .ok (.iconst 0, 1) := by decide +kernel
theorem dX7_reportsByBots_1 : decode cX7_reportsByBots 1 = .ok (.istore_n 1, 1) := by decide +kernel
theorem dX7_reportsByBots_2 : decode cX7_reportsByBots 2 = .ok (.iconst 0, 1) := by decide +kernel
theorem dX7_reportsByBots_3 : decode cX7_reportsByBots 3 = .ok (.istore_n 2, 1) := by decide +kernel
theorem dX7_reportsByBots_4 : decode cX7_reportsByBots 4 = .ok (.iload_n 2, 1) := by decide +kernel
theorem dX7_reportsByBots_5 : decode cX7_reportsByBots 5 = .ok (.aload_n 0, 1) := by decide +kernel
theorem dX7_reportsByBots_6 : decode cX7_reportsByBots 6 = .ok (.getfield 22, 3) := by decide +kernel
theorem dX7_reportsByBots_9 : decode cX7_reportsByBots 9 = .ok (.invokevirtual 52, 3) := by decide +kernel
theorem dX7_reportsByBots_12 : decode cX7_reportsByBots 12 = .ok (.if_icmp .ge 29, 3) := by decide +kernel
theorem dX7_reportsByBots_15 : decode cX7_reportsByBots 15 = .ok (.aload_n 0, 1) := by decide +kernel
theorem dX7_reportsByBots_16 : decode cX7_reportsByBots 16 = .ok (.getfield 22, 3) := by decide +kernel
theorem dX7_reportsByBots_19 : decode cX7_reportsByBots 19 = .ok (.iload_n 2, 1) := by decide +kernel
theorem dX7_reportsByBots_20 : decode cX7_reportsByBots 20 = .ok (.invokevirtual 117, 3) := by decide +kernel
theorem dX7_reportsByBots_23 : decode cX7_reportsByBots 23 = .ok (.checkcast 168, 3) := by decide +kernel
theorem dX7_reportsByBots_26 : decode cX7_reportsByBots 26 = .ok (.invokevirtual 237, 3) := by decide +kernel
theorem dX7_reportsByBots_29 : decode cX7_reportsByBots 29 = .ok (.ifCond .eq 6, 3) := by decide +kernel
theorem dX7_reportsByBots_32 : decode cX7_reportsByBots 32 = .ok (.iinc 1 1, 3) := by decide +kernel
theorem dX7_reportsByBots_35 : decode cX7_reportsByBots 35 = .ok (.iinc 2 1, 3) := by decide +kernel
theorem dX7_reportsByBots_38 : decode cX7_reportsByBots 38 = .ok (.goto (-34), 3) := by decide +kernel
theorem dX7_reportsByBots_41 : decode cX7_reportsByBots 41 = .ok (.iload_n 1, 1) := by decide +kernel
theorem dX7_reportsByBots_42 : decode cX7_reportsByBots 42 = .ok (.ireturn, 1) := by decide +kernel
theorem dX7_reversedReports_0 : decode cX7_reversedReports 0 = .ok (.iconst 0, 1) := by decide +kernel
theorem dX7_reversedReports_1 : decode cX7_reversedReports 1 = .ok (.istore_n 1, 1) := by decide +kernel
theorem dX7_reversedReports_2 : decode cX7_reversedReports 2 = .ok (.iconst 0, 1) := by decide +kernel
theorem dX7_reversedReports_3 : decode cX7_reversedReports 3 = .ok (.istore_n 2, 1) := by decide +kernel
theorem dX7_reversedReports_4 : decode cX7_reversedReports 4 = .ok (.iload_n 2, 1) := by decide +kernel
theorem dX7_reversedReports_5 : decode cX7_reversedReports 5 = .ok (.aload_n 0, 1) := by decide +kernel
theorem dX7_reversedReports_6 : decode cX7_reversedReports 6 = .ok (.getfield 22, 3) := by decide +kernel
theorem dX7_reversedReports_9 : decode cX7_reversedReports 9 = .ok (.invokevirtual 52, 3) := by decide +kernel
theorem dX7_reversedReports_12 : decode cX7_reversedReports 12 = .ok (.if_icmp .ge 29, 3) := by decide +kernel
theorem dX7_reversedReports_15 : decode cX7_reversedReports 15 = .ok (.aload_n 0, 1) := by decide +kernel
theorem dX7_reversedReports_16 : decode cX7_reversedReports 16 = .ok (.getfield 22, 3) := by decide +kernel
theorem dX7_reversedReports_19 : decode cX7_reversedReports 19 = .ok (.iload_n 2, 1) := by decide +kernel
theorem dX7_reversedReports_20 : decode cX7_reversedReports 20 = .ok (.invokevirtual 117, 3) := by decide +kernel
theorem dX7_reversedReports_23 : decode cX7_reversedReports 23 = .ok (.checkcast 168, 3) := by decide +kernel
theorem dX7_reversedReports_26 : decode cX7_reversedReports 26 = .ok (.getfield 270, 3) := by decide +kernel
theorem dX7_reversedReports_29 : decode cX7_reversedReports 29 = .ok (.ifCond .eq 6, 3) := by decide +kernel
theorem dX7_reversedReports_32 : decode cX7_reversedReports 32 = .ok (.iinc 1 1, 3) := by decide +kernel
theorem dX7_reversedReports_35 : decode cX7_reversedReports 35 = .ok (.iinc 2 1, 3) := by decide +kernel
theorem dX7_reversedReports_38 : decode cX7_reversedReports 38 = .ok (.goto (-34), 3) := by decide +kernel
theorem dX7_reversedReports_41 : decode cX7_reversedReports 41 = .ok (.iload_n 1, 1) := by decide +kernel
theorem dX7_reversedReports_42 : decode cX7_reversedReports 42 = .ok (.ireturn, 1) := by decide +kernel
