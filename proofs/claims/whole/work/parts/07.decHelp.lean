theorem dL_addRule_0 : decode cL_addRule 0 = .ok (.aload 6, 2) := by decide +kernel
theorem dL_addRule_2 : decode cL_addRule 2 = .ok (.iconst 0, 1) := by decide +kernel
theorem dL_addRule_3 : decode cL_addRule 3 = .ok (.aload_n 0, 1) := by decide +kernel
theorem dL_addRule_4 : decode cL_addRule 4 = .ok (.iload_n 1, 1) := by decide +kernel
theorem dL_addRule_5 : decode cL_addRule 5 = .ok (.iload_n 2, 1) := by decide +kernel
theorem dL_addRule_6 : decode cL_addRule 6 = .ok (.iload_n 3, 1) := by decide +kernel
theorem dL_addRule_7 : decode cL_addRule 7 = .ok (.iload 4, 2) := by decide +kernel
theorem dL_addRule_9 : decode cL_addRule 9 = .ok (.iload 5, 2) := by decide +kernel
theorem dL_addRule_11 : decode cL_addRule 11 = .ok (.invokevirtual 7, 3) := by decide +kernel
theorem dL_addRule_14 : decode cL_addRule 14 = .ok (.i2l, 1) := by decide +kernel
theorem dL_addRule_15 : decode cL_addRule 15 = .ok (.lastore, 1) := by decide +kernel
theorem dL_addRule_16 : decode cL_addRule 16 = .ok (.goto 11, 3) := by decide +kernel
theorem dL_addRule_19 : decode cL_addRule 19 = .ok (.astore 7, 2) := by decide +kernel
theorem dL_addRule_21 : decode cL_addRule 21 = .ok (.iconst 1, 1) := by decide +kernel
theorem dL_addRule_22 : decode cL_addRule 22 = .ok (.ireturn, 1) := by decide +kernel
theorem dL_addRule_23 : decode cL_addRule 23 = .ok (.astore 7, 2) := by decide +kernel
theorem dL_addRule_25 : decode cL_addRule 25 = .ok (.iconst 2, 1) := by decide +kernel
theorem dL_addRule_26 : decode cL_addRule 26 = .ok (.ireturn, 1) := by decide +kernel
theorem dL_addRule_27 : decode cL_addRule 27 = .ok (.iconst 0, 1) := by decide +kernel
theorem dL_addRule_28 : decode cL_addRule 28 = .ok (.ireturn, 1) := by decide +kernel
theorem dL_repeal_0 : decode cL_repeal 0 = .ok (.aload_n 3, 1) := by decide +kernel
theorem dL_repeal_1 : decode cL_repeal 1 = .ok (.iconst 0, 1) := by decide +kernel
theorem dL_repeal_2 : decode cL_repeal 2 = .ok (.aload_n 0, 1) := by decide +kernel
theorem dL_repeal_3 : decode cL_repeal 3 = .ok (.iload_n 1, 1) := by decide +kernel
theorem dL_repeal_4 : decode cL_repeal 4 = .ok (.iload_n 2, 1) := by decide +kernel
theorem dL_repeal_5 : decode cL_repeal 5 = .ok (.invokevirtual 17, 3) := by decide +kernel
theorem dL_repeal_8 : decode cL_repeal 8 = .ok (.i2l, 1) := by decide +kernel
theorem dL_repeal_9 : decode cL_repeal 9 = .ok (.lastore, 1) := by decide +kernel
theorem dL_repeal_10 : decode cL_repeal 10 = .ok (.goto 15, 3) := by decide +kernel
theorem dL_repeal_13 : decode cL_repeal 13 = .ok (.astore 4, 2) := by decide +kernel
theorem dL_repeal_15 : decode cL_repeal 15 = .ok (.iconst 1, 1) := by decide +kernel
theorem dL_repeal_16 : decode cL_repeal 16 = .ok (.ireturn, 1) := by decide +kernel
theorem dL_repeal_17 : decode cL_repeal 17 = .ok (.astore 4, 2) := by decide +kernel
theorem dL_repeal_19 : decode cL_repeal 19 = .ok (.iconst 2, 1) := by decide +kernel
theorem dL_repeal_20 : decode cL_repeal 20 = .ok (.ireturn, 1) := by decide +kernel
theorem dL_repeal_21 : decode cL_repeal 21 = .ok (.astore 4, 2) := by decide +kernel
theorem dL_repeal_23 : decode cL_repeal 23 = .ok (.iconst 3, 1) := by decide +kernel
theorem dL_repeal_24 : decode cL_repeal 24 = .ok (.ireturn, 1) := by decide +kernel
theorem dL_repeal_25 : decode cL_repeal 25 = .ok (.iconst 0, 1) := by decide +kernel
theorem dL_repeal_26 : decode cL_repeal 26 = .ok (.ireturn, 1) := by decide +kernel
theorem dL_isInForce_0 : decode cL_isInForce 0 = .ok (.aload_n 3, 1) := by decide +kernel
theorem dL_isInForce_1 : decode cL_isInForce 1 = .ok (.iconst 0, 1) := by decide +kernel
theorem dL_isInForce_2 : decode cL_isInForce 2 = .ok (.aload_n 0, 1) := by decide +kernel
theorem dL_isInForce_3 : decode cL_isInForce 3 = .ok (.iload_n 1, 1) := by decide +kernel
theorem dL_isInForce_4 : decode cL_isInForce 4 = .ok (.iload_n 2, 1) := by decide +kernel
theorem dL_isInForce_5 : decode cL_isInForce 5 = .ok (.invokevirtual 23, 3) := by decide +kernel
theorem dL_isInForce_8 : decode cL_isInForce 8 = .ok (.ifCond .eq 7, 3) := by decide +kernel
theorem dL_isInForce_11 : decode cL_isInForce 11 = .ok (.lconst 1, 1) := by decide +kernel
theorem dL_isInForce_12 : decode cL_isInForce 12 = .ok (.goto 4, 3) := by decide +kernel
theorem dL_isInForce_15 : decode cL_isInForce 15 = .ok (.lconst 0, 1) := by decide +kernel
theorem dL_isInForce_16 : decode cL_isInForce 16 = .ok (.lastore, 1) := by decide +kernel
theorem dL_isInForce_17 : decode cL_isInForce 17 = .ok (.goto 11, 3) := by decide +kernel
theorem dL_isInForce_20 : decode cL_isInForce 20 = .ok (.astore 4, 2) := by decide +kernel
theorem dL_isInForce_22 : decode cL_isInForce 22 = .ok (.iconst 1, 1) := by decide +kernel
theorem dL_isInForce_23 : decode cL_isInForce 23 = .ok (.ireturn, 1) := by decide +kernel
theorem dL_isInForce_24 : decode cL_isInForce 24 = .ok (.astore 4, 2) := by decide +kernel
theorem dL_isInForce_26 : decode cL_isInForce 26 = .ok (.iconst 2, 1) := by decide +kernel
theorem dL_isInForce_27 : decode cL_isInForce 27 = .ok (.ireturn, 1) := by decide +kernel
theorem dL_isInForce_28 : decode cL_isInForce 28 = .ok (.iconst 0, 1) := by decide +kernel
theorem dL_isInForce_29 : decode cL_isInForce 29 = .ok (.ireturn, 1) := by decide +kernel
theorem dL_applying_0 : decode cL_applying 0 = .ok (.aload_n 2, 1) := by decide +kernel
theorem dL_applying_1 : decode cL_applying 1 = .ok (.iconst 0, 1) := by decide +kernel
theorem dL_applying_2 : decode cL_applying 2 = .ok (.aload_n 0, 1) := by decide +kernel
theorem dL_applying_3 : decode cL_applying 3 = .ok (.iload_n 1, 1) := by decide +kernel
theorem dL_applying_4 : decode cL_applying 4 = .ok (.invokevirtual 27, 3) := by decide +kernel
theorem dL_applying_7 : decode cL_applying 7 = .ok (.i2l, 1) := by decide +kernel
theorem dL_applying_8 : decode cL_applying 8 = .ok (.lastore, 1) := by decide +kernel
theorem dL_applying_9 : decode cL_applying 9 = .ok (.goto 9, 3) := by decide +kernel
theorem dL_applying_12 : decode cL_applying 12 = .ok (.astore_n 3, 1) := by decide +kernel
theorem dL_applying_13 : decode cL_applying 13 = .ok (.iconst 1, 1) := by decide +kernel
theorem dL_applying_14 : decode cL_applying 14 = .ok (.ireturn, 1) := by decide +kernel
theorem dL_applying_15 : decode cL_applying 15 = .ok (.astore_n 3, 1) := by decide +kernel
theorem dL_applying_16 : decode cL_applying 16 = .ok (.iconst 2, 1) := by decide +kernel
theorem dL_applying_17 : decode cL_applying 17 = .ok (.ireturn, 1) := by decide +kernel
theorem dL_applying_18 : decode cL_applying 18 = .ok (.iconst 0, 1) := by decide +kernel
theorem dL_applying_19 : decode cL_applying 19 = .ok (.ireturn, 1) := by decide +kernel
theorem dL_conflicts_0 : decode cL_conflicts 0 = .ok (.aload_n 2, 1) := by decide +kernel
theorem dL_conflicts_1 : decode cL_conflicts 1 = .ok (.iconst 0, 1) := by decide +kernel
theorem dL_conflicts_2 : decode cL_conflicts 2 = .ok (.aload_n 0, 1) := by decide +kernel
theorem dL_conflicts_3 : decode cL_conflicts 3 = .ok (.iload_n 1, 1) := by decide +kernel
theorem dL_conflicts_4 : decode cL_conflicts 4 = .ok (.invokevirtual 33, 3) := by decide +kernel
theorem dL_conflicts_7 : decode cL_conflicts 7 = .ok (.i2l, 1) := by decide +kernel
theorem dL_conflicts_8 : decode cL_conflicts 8 = .ok (.lastore, 1) := by decide +kernel
theorem dL_conflicts_9 : decode cL_conflicts 9 = .ok (.goto 6, 3) := by decide +kernel
theorem dL_conflicts_12 : decode cL_conflicts 12 = .ok (.astore_n 3, 1) := by decide +kernel
theorem dL_conflicts_13 : decode cL_conflicts 13 = .ok (.iconst 1, 1) := by decide +kernel
theorem dL_conflicts_14 : decode cL_conflicts 14 = .ok (.ireturn, 1) := by decide +kernel
theorem dL_conflicts_15 : decode cL_conflicts 15 = .ok (.iconst 0, 1) := by decide +kernel
theorem dL_conflicts_16 : decode cL_conflicts 16 = .ok (.ireturn, 1) := by decide +kernel
theorem dL_addUser_0 : decode cL_addUser 0 = .ok (.aload_n 2, 1) := by decide +kernel
theorem dL_addUser_1 : decode cL_addUser 1 = .ok (.iconst 0, 1) := by decide +kernel
theorem dL_addUser_2 : decode cL_addUser 2 = .ok (.aload_n 0, 1) := by decide +kernel
theorem dL_addUser_3 : decode cL_addUser 3 = .ok (.iload_n 1, 1) := by decide +kernel
theorem dL_addUser_4 : decode cL_addUser 4 = .ok (.invokevirtual 36, 3) := by decide +kernel
theorem dL_addUser_7 : decode cL_addUser 7 = .ok (.i2l, 1) := by decide +kernel
theorem dL_addUser_8 : decode cL_addUser 8 = .ok (.lastore, 1) := by decide +kernel
theorem dL_addUser_9 : decode cL_addUser 9 = .ok (.goto 9, 3) := by decide +kernel
theorem dL_addUser_12 : decode cL_addUser 12 = .ok (.astore_n 3, 1) := by decide +kernel
theorem dL_addUser_13 : decode cL_addUser 13 = .ok (.iconst 1, 1) := by decide +kernel
theorem dL_addUser_14 : decode cL_addUser 14 = .ok (.ireturn, 1) := by decide +kernel
theorem dL_addUser_15 : decode cL_addUser 15 = .ok (.astore_n 3, 1) := by decide +kernel
theorem dL_addUser_16 : decode cL_addUser 16 = .ok (.iconst 2, 1) := by decide +kernel
theorem dL_addUser_17 : decode cL_addUser 17 = .ok (.ireturn, 1) := by decide +kernel
theorem dL_addUser_18 : decode cL_addUser 18 = .ok (.iconst 0, 1) := by decide +kernel
theorem dL_addUser_19 : decode cL_addUser 19 = .ok (.ireturn, 1) := by decide +kernel
theorem dL_setWeight_0 : decode cL_setWeight 0 = .ok (.aload_n 3, 1) := by decide +kernel
theorem dL_setWeight_1 : decode cL_setWeight 1 = .ok (.iconst 0, 1) := by decide +kernel
theorem dL_setWeight_2 : decode cL_setWeight 2 = .ok (.aload_n 0, 1) := by decide +kernel
theorem dL_setWeight_3 : decode cL_setWeight 3 = .ok (.iload_n 1, 1) := by decide +kernel
theorem dL_setWeight_4 : decode cL_setWeight 4 = .ok (.iload_n 2, 1) := by decide +kernel
theorem dL_setWeight_5 : decode cL_setWeight 5 = .ok (.invokevirtual 39, 3) := by decide +kernel
theorem dL_setWeight_8 : decode cL_setWeight 8 = .ok (.i2l, 1) := by decide +kernel
theorem dL_setWeight_9 : decode cL_setWeight 9 = .ok (.lastore, 1) := by decide +kernel
theorem dL_setWeight_10 : decode cL_setWeight 10 = .ok (.goto 11, 3) := by decide +kernel
theorem dL_setWeight_13 : decode cL_setWeight 13 = .ok (.astore 4, 2) := by decide +kernel
theorem dL_setWeight_15 : decode cL_setWeight 15 = .ok (.iconst 1, 1) := by decide +kernel
theorem dL_setWeight_16 : decode cL_setWeight 16 = .ok (.ireturn, 1) := by decide +kernel
theorem dL_setWeight_17 : decode cL_setWeight 17 = .ok (.astore 4, 2) := by decide +kernel
theorem dL_setWeight_19 : decode cL_setWeight 19 = .ok (.iconst 2, 1) := by decide +kernel
theorem dL_setWeight_20 : decode cL_setWeight 20 = .ok (.ireturn, 1) := by decide +kernel
theorem dL_setWeight_21 : decode cL_setWeight 21 = .ok (.iconst 0, 1) := by decide +kernel
theorem dL_setWeight_22 : decode cL_setWeight 22 = .ok (.ireturn, 1) := by decide +kernel
theorem dL_sanctions_0 : decode cL_sanctions 0 = .ok (.aload_n 2, 1) := by decide +kernel
theorem dL_sanctions_1 : decode cL_sanctions 1 = .ok (.iconst 0, 1) := by decide +kernel
theorem dL_sanctions_2 : decode cL_sanctions 2 = .ok (.aload_n 0, 1) := by decide +kernel
theorem dL_sanctions_3 : decode cL_sanctions 3 = .ok (.iload_n 1, 1) := by decide +kernel
theorem dL_sanctions_4 : decode cL_sanctions 4 = .ok (.invokevirtual 42, 3) := by decide +kernel
theorem dL_sanctions_7 : decode cL_sanctions 7 = .ok (.i2l, 1) := by decide +kernel
theorem dL_sanctions_8 : decode cL_sanctions 8 = .ok (.lastore, 1) := by decide +kernel
theorem dL_sanctions_9 : decode cL_sanctions 9 = .ok (.goto 6, 3) := by decide +kernel
theorem dL_sanctions_12 : decode cL_sanctions 12 = .ok (.astore_n 3, 1) := by decide +kernel
theorem dL_sanctions_13 : decode cL_sanctions 13 = .ok (.iconst 1, 1) := by decide +kernel
theorem dL_sanctions_14 : decode cL_sanctions 14 = .ok (.ireturn, 1) := by decide +kernel
theorem dL_sanctions_15 : decode cL_sanctions 15 = .ok (.iconst 0, 1) := by decide +kernel
theorem dL_sanctions_16 : decode cL_sanctions 16 = .ok (.ireturn, 1) := by decide +kernel
theorem dL_sanctionedUntil_0 : decode cL_sanctionedUntil 0 = .ok (.aload_n 2, 1) := by decide +kernel
theorem dL_sanctionedUntil_1 : decode cL_sanctionedUntil 1 = .ok (.iconst 0, 1) := by decide +kernel
theorem dL_sanctionedUntil_2 : decode cL_sanctionedUntil 2 = .ok (.aload_n 0, 1) := by decide +kernel
theorem dL_sanctionedUntil_3 : decode cL_sanctionedUntil 3 = .ok (.iload_n 1, 1) := by decide +kernel
theorem dL_sanctionedUntil_4 : decode cL_sanctionedUntil 4 = .ok (.invokevirtual 45, 3) := by decide +kernel
theorem dL_sanctionedUntil_7 : decode cL_sanctionedUntil 7 = .ok (.i2l, 1) := by decide +kernel
theorem dL_sanctionedUntil_8 : decode cL_sanctionedUntil 8 = .ok (.lastore, 1) := by decide +kernel
theorem dL_sanctionedUntil_9 : decode cL_sanctionedUntil 9 = .ok (.goto 9, 3) := by decide +kernel
theorem dL_sanctionedUntil_12 : decode cL_sanctionedUntil 12 = .ok (.astore_n 3, 1) := by decide +kernel
theorem dL_sanctionedUntil_13 : decode cL_sanctionedUntil 13 = .ok (.iconst 1, 1) := by decide +kernel
theorem dL_sanctionedUntil_14 : decode cL_sanctionedUntil 14 = .ok (.ireturn, 1) := by decide +kernel
theorem dL_sanctionedUntil_15 : decode cL_sanctionedUntil 15 = .ok (.astore_n 3, 1) := by decide +kernel
theorem dL_sanctionedUntil_16 : decode cL_sanctionedUntil 16 = .ok (.iconst 2, 1) := by decide +kernel
theorem dL_sanctionedUntil_17 : decode cL_sanctionedUntil 17 = .ok (.ireturn, 1) := by decide +kernel
theorem dL_sanctionedUntil_18 : decode cL_sanctionedUntil 18 = .ok (.iconst 0, 1) := by decide +kernel
theorem dL_sanctionedUntil_19 : decode cL_sanctionedUntil 19 = .ok (.ireturn, 1) := by decide +kernel
theorem dL_addBot_0 : decode cL_addBot 0 = .ok (.aload_n 3, 1) := by decide +kernel
theorem dL_addBot_1 : decode cL_addBot 1 = .ok (.iconst 0, 1) := by decide +kernel
theorem dL_addBot_2 : decode cL_addBot 2 = .ok (.aload_n 0, 1) := by decide +kernel
theorem dL_addBot_3 : decode cL_addBot 3 = .ok (.iload_n 1, 1) := by decide +kernel
theorem dL_addBot_4 : decode cL_addBot 4 = .ok (.iload_n 2, 1) := by decide +kernel
theorem dL_addBot_5 : decode cL_addBot 5 = .ok (.invokevirtual 48, 3) := by decide +kernel
theorem dL_addBot_8 : decode cL_addBot 8 = .ok (.i2l, 1) := by decide +kernel
theorem dL_addBot_9 : decode cL_addBot 9 = .ok (.lastore, 1) := by decide +kernel
theorem dL_addBot_10 : decode cL_addBot 10 = .ok (.goto 11, 3) := by decide +kernel
theorem dL_addBot_13 : decode cL_addBot 13 = .ok (.astore 4, 2) := by decide +kernel
theorem dL_addBot_15 : decode cL_addBot 15 = .ok (.iconst 1, 1) := by decide +kernel
theorem dL_addBot_16 : decode cL_addBot 16 = .ok (.ireturn, 1) := by decide +kernel
theorem dL_addBot_17 : decode cL_addBot 17 = .ok (.astore 4, 2) := by decide +kernel
theorem dL_addBot_19 : decode cL_addBot 19 = .ok (.iconst 2, 1) := by decide +kernel
theorem dL_addBot_20 : decode cL_addBot 20 = .ok (.ireturn, 1) := by decide +kernel
theorem dL_addBot_21 : decode cL_addBot 21 = .ok (.iconst 0, 1) := by decide +kernel
theorem dL_addBot_22 : decode cL_addBot 22 = .ok (.ireturn, 1) := by decide +kernel
theorem dL_threshold_0 : decode cL_threshold 0 = .ok (.aload_n 2, 1) := by decide +kernel
theorem dL_threshold_1 : decode cL_threshold 1 = .ok (.iconst 0, 1) := by decide +kernel
theorem dL_threshold_2 : decode cL_threshold 2 = .ok (.aload_n 0, 1) := by decide +kernel
theorem dL_threshold_3 : decode cL_threshold 3 = .ok (.iload_n 1, 1) := by decide +kernel
theorem dL_threshold_4 : decode cL_threshold 4 = .ok (.invokevirtual 51, 3) := by decide +kernel
theorem dL_threshold_7 : decode cL_threshold 7 = .ok (.i2l, 1) := by decide +kernel
theorem dL_threshold_8 : decode cL_threshold 8 = .ok (.lastore, 1) := by decide +kernel
theorem dL_threshold_9 : decode cL_threshold 9 = .ok (.goto 6, 3) := by decide +kernel
theorem dL_threshold_12 : decode cL_threshold 12 = .ok (.astore_n 3, 1) := by decide +kernel
theorem dL_threshold_13 : decode cL_threshold 13 = .ok (.iconst 1, 1) := by decide +kernel
theorem dL_threshold_14 : decode cL_threshold 14 = .ok (.ireturn, 1) := by decide +kernel
theorem dL_threshold_15 : decode cL_threshold 15 = .ok (.iconst 0, 1) := by decide +kernel
theorem dL_threshold_16 : decode cL_threshold 16 = .ok (.ireturn, 1) := by decide +kernel
theorem dL_file_0 : decode cL_file 0 = .ok (.aload 5, 2) := by decide +kernel
theorem dL_file_2 : decode cL_file 2 = .ok (.iconst 0, 1) := by decide +kernel
theorem dL_file_3 : decode cL_file 3 = .ok (.aload_n 0, 1) := by decide +kernel
theorem dL_file_4 : decode cL_file 4 = .ok (.iload_n 1, 1) := by decide +kernel
theorem dL_file_5 : decode cL_file 5 = .ok (.iload_n 2, 1) := by decide +kernel
theorem dL_file_6 : decode cL_file 6 = .ok (.iload_n 3, 1) := by decide +kernel
theorem dL_file_7 : decode cL_file 7 = .ok (.iload 4, 2) := by decide +kernel
theorem dL_file_9 : decode cL_file 9 = .ok (.invokevirtual 54, 3) := by decide +kernel
theorem dL_file_12 : decode cL_file 12 = .ok (.i2l, 1) := by decide +kernel
theorem dL_file_13 : decode cL_file 13 = .ok (.lastore, 1) := by decide +kernel
theorem dL_file_14 : decode cL_file 14 = .ok (.goto 15, 3) := by decide +kernel
theorem dL_file_17 : decode cL_file 17 = .ok (.astore 6, 2) := by decide +kernel
theorem dL_file_19 : decode cL_file 19 = .ok (.iconst 1, 1) := by decide +kernel
theorem dL_file_20 : decode cL_file 20 = .ok (.ireturn, 1) := by decide +kernel
theorem dL_file_21 : decode cL_file 21 = .ok (.astore 6, 2) := by decide +kernel
theorem dL_file_23 : decode cL_file 23 = .ok (.iconst 2, 1) := by decide +kernel
theorem dL_file_24 : decode cL_file 24 = .ok (.ireturn, 1) := by decide +kernel
theorem dL_file_25 : decode cL_file 25 = .ok (.astore 6, 2) := by decide +kernel
theorem dL_file_27 : decode cL_file 27 = .ok (.iconst 3, 1) := by decide +kernel
theorem dL_file_28 : decode cL_file 28 = .ok (.ireturn, 1) := by decide +kernel
theorem dL_file_29 : decode cL_file 29 = .ok (.iconst 0, 1) := by decide +kernel
theorem dL_file_30 : decode cL_file 30 = .ok (.ireturn, 1) := by decide +kernel
theorem dL_state_0 : decode cL_state 0 = .ok (.aload_n 2, 1) := by decide +kernel
theorem dL_state_1 : decode cL_state 1 = .ok (.iconst 0, 1) := by decide +kernel
theorem dL_state_2 : decode cL_state 2 = .ok (.aload_n 0, 1) := by decide +kernel
theorem dL_state_3 : decode cL_state 3 = .ok (.iload_n 1, 1) := by decide +kernel
theorem dL_state_4 : decode cL_state 4 = .ok (.invokevirtual 58, 3) := by decide +kernel
theorem dL_state_7 : decode cL_state 7 = .ok (.i2l, 1) := by decide +kernel
theorem dL_state_8 : decode cL_state 8 = .ok (.lastore, 1) := by decide +kernel
theorem dL_state_9 : decode cL_state 9 = .ok (.goto 6, 3) := by decide +kernel
theorem dL_state_12 : decode cL_state 12 = .ok (.astore_n 3, 1) := by decide +kernel
theorem dL_state_13 : decode cL_state 13 = .ok (.iconst 1, 1) := by decide +kernel
theorem dL_state_14 : decode cL_state 14 = .ok (.ireturn, 1) := by decide +kernel
theorem dL_state_15 : decode cL_state 15 = .ok (.iconst 0, 1) := by decide +kernel
theorem dL_state_16 : decode cL_state 16 = .ok (.ireturn, 1) := by decide +kernel
theorem dL_vote_0 : decode cL_vote 0 = .ok (.aload 4, 2) := by decide +kernel
theorem dL_vote_2 : decode cL_vote 2 = .ok (.iconst 0, 1) := by decide +kernel
theorem dL_vote_3 : decode cL_vote 3 = .ok (.aload_n 0, 1) := by decide +kernel
theorem dL_vote_4 : decode cL_vote 4 = .ok (.iload_n 1, 1) := by decide +kernel
theorem dL_vote_5 : decode cL_vote 5 = .ok (.iload_n 2, 1) := by decide +kernel
theorem dL_vote_6 : decode cL_vote 6 = .ok (.iload_n 3, 1) := by decide +kernel
theorem dL_vote_7 : decode cL_vote 7 = .ok (.invokevirtual 62, 3) := by decide +kernel
theorem dL_vote_10 : decode cL_vote 10 = .ok (.i2l, 1) := by decide +kernel
theorem dL_vote_11 : decode cL_vote 11 = .ok (.lastore, 1) := by decide +kernel
theorem dL_vote_12 : decode cL_vote 12 = .ok (.goto 15, 3) := by decide +kernel
theorem dL_vote_15 : decode cL_vote 15 = .ok (.astore 5, 2) := by decide +kernel
theorem dL_vote_17 : decode cL_vote 17 = .ok (.iconst 1, 1) := by decide +kernel
theorem dL_vote_18 : decode cL_vote 18 = .ok (.ireturn, 1) := by decide +kernel
theorem dL_vote_19 : decode cL_vote 19 = .ok (.astore 5, 2) := by decide +kernel
theorem dL_vote_21 : decode cL_vote 21 = .ok (.iconst 2, 1) := by decide +kernel
theorem dL_vote_22 : decode cL_vote 22 = .ok (.ireturn, 1) := by decide +kernel
theorem dL_vote_23 : decode cL_vote 23 = .ok (.astore 5, 2) := by decide +kernel
theorem dL_vote_25 : decode cL_vote 25 = .ok (.iconst 3, 1) := by decide +kernel
theorem dL_vote_26 : decode cL_vote 26 = .ok (.ireturn, 1) := by decide +kernel
theorem dL_vote_27 : decode cL_vote 27 = .ok (.iconst 0, 1) := by decide +kernel
theorem dL_vote_28 : decode cL_vote 28 = .ok (.ireturn, 1) := by decide +kernel
theorem dL_weightFor_0 : decode cL_weightFor 0 = .ok (.aload_n 2, 1) := by decide +kernel
theorem dL_weightFor_1 : decode cL_weightFor 1 = .ok (.iconst 0, 1) := by decide +kernel
theorem dL_weightFor_2 : decode cL_weightFor 2 = .ok (.aload_n 0, 1) := by decide +kernel
theorem dL_weightFor_3 : decode cL_weightFor 3 = .ok (.iload_n 1, 1) := by decide +kernel
theorem dL_weightFor_4 : decode cL_weightFor 4 = .ok (.invokevirtual 68, 3) := by decide +kernel
theorem dL_weightFor_7 : decode cL_weightFor 7 = .ok (.i2l, 1) := by decide +kernel
theorem dL_weightFor_8 : decode cL_weightFor 8 = .ok (.lastore, 1) := by decide +kernel
theorem dL_weightFor_9 : decode cL_weightFor 9 = .ok (.goto 6, 3) := by decide +kernel
theorem dL_weightFor_12 : decode cL_weightFor 12 = .ok (.astore_n 3, 1) := by decide +kernel
theorem dL_weightFor_13 : decode cL_weightFor 13 = .ok (.iconst 1, 1) := by decide +kernel
theorem dL_weightFor_14 : decode cL_weightFor 14 = .ok (.ireturn, 1) := by decide +kernel
theorem dL_weightFor_15 : decode cL_weightFor 15 = .ok (.iconst 0, 1) := by decide +kernel
theorem dL_weightFor_16 : decode cL_weightFor 16 = .ok (.ireturn, 1) := by decide +kernel
theorem dL_weightAgainst_0 : decode cL_weightAgainst 0 = .ok (.aload_n 2, 1) := by decide +kernel
theorem dL_weightAgainst_1 : decode cL_weightAgainst 1 = .ok (.iconst 0, 1) := by decide +kernel
theorem dL_weightAgainst_2 : decode cL_weightAgainst 2 = .ok (.aload_n 0, 1) := by decide +kernel
theorem dL_weightAgainst_3 : decode cL_weightAgainst 3 = .ok (.iload_n 1, 1) := by decide +kernel
theorem dL_weightAgainst_4 : decode cL_weightAgainst 4 = .ok (.invokevirtual 71, 3) := by decide +kernel
theorem dL_weightAgainst_7 : decode cL_weightAgainst 7 = .ok (.i2l, 1) := by decide +kernel
theorem dL_weightAgainst_8 : decode cL_weightAgainst 8 = .ok (.lastore, 1) := by decide +kernel
theorem dL_weightAgainst_9 : decode cL_weightAgainst 9 = .ok (.goto 6, 3) := by decide +kernel
theorem dL_weightAgainst_12 : decode cL_weightAgainst 12 = .ok (.astore_n 3, 1) := by decide +kernel
theorem dL_weightAgainst_13 : decode cL_weightAgainst 13 = .ok (.iconst 1, 1) := by decide +kernel
theorem dL_weightAgainst_14 : decode cL_weightAgainst 14 = .ok (.ireturn, 1) := by decide +kernel
theorem dL_weightAgainst_15 : decode cL_weightAgainst 15 = .ok (.iconst 0, 1) := by decide +kernel
theorem dL_weightAgainst_16 : decode cL_weightAgainst 16 = .ok (.ireturn, 1) := by decide +kernel
theorem dL_setQuorum_0 : decode cL_setQuorum 0 = .ok (.aload_n 2, 1) := by decide +kernel
theorem dL_setQuorum_1 : decode cL_setQuorum 1 = .ok (.iconst 0, 1) := by decide +kernel
theorem dL_setQuorum_2 : decode cL_setQuorum 2 = .ok (.aload_n 0, 1) := by decide +kernel
theorem dL_setQuorum_3 : decode cL_setQuorum 3 = .ok (.iload_n 1, 1) := by decide +kernel
theorem dL_setQuorum_4 : decode cL_setQuorum 4 = .ok (.invokevirtual 74, 3) := by decide +kernel
theorem dL_setQuorum_7 : decode cL_setQuorum 7 = .ok (.i2l, 1) := by decide +kernel
theorem dL_setQuorum_8 : decode cL_setQuorum 8 = .ok (.lastore, 1) := by decide +kernel
theorem dL_setQuorum_9 : decode cL_setQuorum 9 = .ok (.goto 6, 3) := by decide +kernel
theorem dL_setQuorum_12 : decode cL_setQuorum 12 = .ok (.astore_n 3, 1) := by decide +kernel
theorem dL_setQuorum_13 : decode cL_setQuorum 13 = .ok (.iconst 1, 1) := by decide +kernel
theorem dL_setQuorum_14 : decode cL_setQuorum 14 = .ok (.ireturn, 1) := by decide +kernel
theorem dL_setQuorum_15 : decode cL_setQuorum 15 = .ok (.iconst 0, 1) := by decide +kernel
theorem dL_setQuorum_16 : decode cL_setQuorum 16 = .ok (.ireturn, 1) := by decide +kernel
theorem dL_precedent_0 : decode cL_precedent 0 = .ok (.aload_n 2, 1) := by decide +kernel
theorem dL_precedent_1 : decode cL_precedent 1 = .ok (.iconst 0, 1) := by decide +kernel
theorem dL_precedent_2 : decode cL_precedent 2 = .ok (.aload_n 0, 1) := by decide +kernel
theorem dL_precedent_3 : decode cL_precedent 3 = .ok (.iload_n 1, 1) := by decide +kernel
theorem dL_precedent_4 : decode cL_precedent 4 = .ok (.invokevirtual 77, 3) := by decide +kernel
theorem dL_precedent_7 : decode cL_precedent 7 = .ok (.i2l, 1) := by decide +kernel
theorem dL_precedent_8 : decode cL_precedent 8 = .ok (.lastore, 1) := by decide +kernel
theorem dL_precedent_9 : decode cL_precedent 9 = .ok (.goto 9, 3) := by decide +kernel
theorem dL_precedent_12 : decode cL_precedent 12 = .ok (.astore_n 3, 1) := by decide +kernel
theorem dL_precedent_13 : decode cL_precedent 13 = .ok (.iconst 1, 1) := by decide +kernel
theorem dL_precedent_14 : decode cL_precedent 14 = .ok (.ireturn, 1) := by decide +kernel
theorem dL_precedent_15 : decode cL_precedent 15 = .ok (.astore_n 3, 1) := by decide +kernel
theorem dL_precedent_16 : decode cL_precedent 16 = .ok (.iconst 2, 1) := by decide +kernel
theorem dL_precedent_17 : decode cL_precedent 17 = .ok (.ireturn, 1) := by decide +kernel
theorem dL_precedent_18 : decode cL_precedent 18 = .ok (.iconst 0, 1) := by decide +kernel
theorem dL_precedent_19 : decode cL_precedent 19 = .ok (.ireturn, 1) := by decide +kernel
theorem dL_decide_0 : decode cL_decide 0 = .ok (.aload_n 2, 1) := by decide +kernel
theorem dL_decide_1 : decode cL_decide 1 = .ok (.iconst 0, 1) := by decide +kernel
theorem dL_decide_2 : decode cL_decide 2 = .ok (.aload_n 0, 1) := by decide +kernel
theorem dL_decide_3 : decode cL_decide 3 = .ok (.iload_n 1, 1) := by decide +kernel
theorem dL_decide_4 : decode cL_decide 4 = .ok (.invokevirtual 80, 3) := by decide +kernel
theorem dL_decide_7 : decode cL_decide 7 = .ok (.i2l, 1) := by decide +kernel
theorem dL_decide_8 : decode cL_decide 8 = .ok (.lastore, 1) := by decide +kernel
theorem dL_decide_9 : decode cL_decide 9 = .ok (.goto 12, 3) := by decide +kernel
theorem dL_decide_12 : decode cL_decide 12 = .ok (.astore_n 3, 1) := by decide +kernel
theorem dL_decide_13 : decode cL_decide 13 = .ok (.iconst 1, 1) := by decide +kernel
theorem dL_decide_14 : decode cL_decide 14 = .ok (.ireturn, 1) := by decide +kernel
theorem dL_decide_15 : decode cL_decide 15 = .ok (.astore_n 3, 1) := by decide +kernel
theorem dL_decide_16 : decode cL_decide 16 = .ok (.iconst 2, 1) := by decide +kernel
theorem dL_decide_17 : decode cL_decide 17 = .ok (.ireturn, 1) := by decide +kernel
theorem dL_decide_18 : decode cL_decide 18 = .ok (.astore_n 3, 1) := by decide +kernel
theorem dL_decide_19 : decode cL_decide 19 = .ok (.iconst 3, 1) := by decide +kernel
theorem dL_decide_20 : decode cL_decide 20 = .ok (.ireturn, 1) := by decide +kernel
theorem dL_decide_21 : decode cL_decide 21 = .ok (.iconst 0, 1) := by decide +kernel
theorem dL_decide_22 : decode cL_decide 22 = .ok (.ireturn, 1) := by decide +kernel
theorem dL_outcome_0 : decode cL_outcome 0 = .ok (.aload_n 2, 1) := by decide +kernel
theorem dL_outcome_1 : decode cL_outcome 1 = .ok (.iconst 0, 1) := by decide +kernel
theorem dL_outcome_2 : decode cL_outcome 2 = .ok (.aload_n 0, 1) := by decide +kernel
theorem dL_outcome_3 : decode cL_outcome 3 = .ok (.iload_n 1, 1) := by decide +kernel
theorem dL_outcome_4 : decode cL_outcome 4 = .ok (.invokevirtual 83, 3) := by decide +kernel
theorem dL_outcome_7 : decode cL_outcome 7 = .ok (.i2l, 1) := by decide +kernel
theorem dL_outcome_8 : decode cL_outcome 8 = .ok (.lastore, 1) := by decide +kernel
theorem dL_outcome_9 : decode cL_outcome 9 = .ok (.goto 9, 3) := by decide +kernel
theorem dL_outcome_12 : decode cL_outcome 12 = .ok (.astore_n 3, 1) := by decide +kernel
theorem dL_outcome_13 : decode cL_outcome 13 = .ok (.iconst 1, 1) := by decide +kernel
theorem dL_outcome_14 : decode cL_outcome 14 = .ok (.ireturn, 1) := by decide +kernel
theorem dL_outcome_15 : decode cL_outcome 15 = .ok (.astore_n 3, 1) := by decide +kernel
theorem dL_outcome_16 : decode cL_outcome 16 = .ok (.iconst 2, 1) := by decide +kernel
theorem dL_outcome_17 : decode cL_outcome 17 = .ok (.ireturn, 1) := by decide +kernel
theorem dL_outcome_18 : decode cL_outcome 18 = .ok (.iconst 0, 1) := by decide +kernel
theorem dL_outcome_19 : decode cL_outcome 19 = .ok (.ireturn, 1) := by decide +kernel
theorem dL_outcomeAnew_0 : decode cL_outcomeAnew 0 = .ok (.aload_n 2, 1) := by decide +kernel
theorem dL_outcomeAnew_1 : decode cL_outcomeAnew 1 = .ok (.iconst 0, 1) := by decide +kernel
theorem dL_outcomeAnew_2 : decode cL_outcomeAnew 2 = .ok (.aload_n 0, 1) := by decide +kernel
theorem dL_outcomeAnew_3 : decode cL_outcomeAnew 3 = .ok (.iload_n 1, 1) := by decide +kernel
theorem dL_outcomeAnew_4 : decode cL_outcomeAnew 4 = .ok (.invokevirtual 86, 3) := by decide +kernel
theorem dL_outcomeAnew_7 : decode cL_outcomeAnew 7 = .ok (.i2l, 1) := by decide +kernel
theorem dL_outcomeAnew_8 : decode cL_outcomeAnew 8 = .ok (.lastore, 1) := by decide +kernel
theorem dL_outcomeAnew_9 : decode cL_outcomeAnew 9 = .ok (.goto 9, 3) := by decide +kernel
theorem dL_outcomeAnew_12 : decode cL_outcomeAnew 12 = .ok (.astore_n 3, 1) := by decide +kernel
theorem dL_outcomeAnew_13 : decode cL_outcomeAnew 13 = .ok (.iconst 1, 1) := by decide +kernel
theorem dL_outcomeAnew_14 : decode cL_outcomeAnew 14 = .ok (.ireturn, 1) := by decide +kernel
theorem dL_outcomeAnew_15 : decode cL_outcomeAnew 15 = .ok (.astore_n 3, 1) := by decide +kernel
theorem dL_outcomeAnew_16 : decode cL_outcomeAnew 16 = .ok (.iconst 2, 1) := by decide +kernel
theorem dL_outcomeAnew_17 : decode cL_outcomeAnew 17 = .ok (.ireturn, 1) := by decide +kernel
theorem dL_outcomeAnew_18 : decode cL_outcomeAnew 18 = .ok (.iconst 0, 1) := by decide +kernel
theorem dL_outcomeAnew_19 : decode cL_outcomeAnew 19 = .ok (.ireturn, 1) := by decide +kernel
theorem dL_isByBot_0 : decode cL_isByBot 0 = .ok (.aload_n 2, 1) := by decide +kernel
theorem dL_isByBot_1 : decode cL_isByBot 1 = .ok (.iconst 0, 1) := by decide +kernel
theorem dL_isByBot_2 : decode cL_isByBot 2 = .ok (.aload_n 0, 1) := by decide +kernel
theorem dL_isByBot_3 : decode cL_isByBot 3 = .ok (.iload_n 1, 1) := by decide +kernel
theorem dL_isByBot_4 : decode cL_isByBot 4 = .ok (.invokevirtual 89, 3) := by decide +kernel
theorem dL_isByBot_7 : decode cL_isByBot 7 = .ok (.ifCond .eq 7, 3) := by decide +kernel
theorem dL_isByBot_10 : decode cL_isByBot 10 = .ok (.lconst 1, 1) := by decide +kernel
theorem dL_isByBot_11 : decode cL_isByBot 11 = .ok (.goto 4, 3) := by decide +kernel
theorem dL_isByBot_14 : decode cL_isByBot 14 = .ok (.lconst 0, 1) := by decide +kernel
theorem dL_isByBot_15 : decode cL_isByBot 15 = .ok (.lastore, 1) := by decide +kernel
theorem dL_isByBot_16 : decode cL_isByBot 16 = .ok (.goto 9, 3) := by decide +kernel
theorem dL_isByBot_19 : decode cL_isByBot 19 = .ok (.astore_n 3, 1) := by decide +kernel
theorem dL_isByBot_20 : decode cL_isByBot 20 = .ok (.iconst 1, 1) := by decide +kernel
theorem dL_isByBot_21 : decode cL_isByBot 21 = .ok (.ireturn, 1) := by decide +kernel
theorem dL_isByBot_22 : decode cL_isByBot 22 = .ok (.astore_n 3, 1) := by decide +kernel
theorem dL_isByBot_23 : decode cL_isByBot 23 = .ok (.iconst 2, 1) := by decide +kernel
theorem dL_isByBot_24 : decode cL_isByBot 24 = .ok (.ireturn, 1) := by decide +kernel
theorem dL_isByBot_25 : decode cL_isByBot 25 = .ok (.iconst 0, 1) := by decide +kernel
theorem dL_isByBot_26 : decode cL_isByBot 26 = .ok (.ireturn, 1) := by decide +kernel
theorem dL_appeal_0 : decode cL_appeal 0 = .ok (.aload_n 2, 1) := by decide +kernel
theorem dL_appeal_1 : decode cL_appeal 1 = .ok (.iconst 0, 1) := by decide +kernel
theorem dL_appeal_2 : decode cL_appeal 2 = .ok (.aload_n 0, 1) := by decide +kernel
theorem dL_appeal_3 : decode cL_appeal 3 = .ok (.iload_n 1, 1) := by decide +kernel
theorem dL_appeal_4 : decode cL_appeal 4 = .ok (.invokevirtual 93, 3) := by decide +kernel
theorem dL_appeal_7 : decode cL_appeal 7 = .ok (.i2l, 1) := by decide +kernel
theorem dL_appeal_8 : decode cL_appeal 8 = .ok (.lastore, 1) := by decide +kernel
theorem dL_appeal_9 : decode cL_appeal 9 = .ok (.goto 12, 3) := by decide +kernel
theorem dL_appeal_12 : decode cL_appeal 12 = .ok (.astore_n 3, 1) := by decide +kernel
theorem dL_appeal_13 : decode cL_appeal 13 = .ok (.iconst 1, 1) := by decide +kernel
theorem dL_appeal_14 : decode cL_appeal 14 = .ok (.ireturn, 1) := by decide +kernel
theorem dL_appeal_15 : decode cL_appeal 15 = .ok (.astore_n 3, 1) := by decide +kernel
theorem dL_appeal_16 : decode cL_appeal 16 = .ok (.iconst 2, 1) := by decide +kernel
theorem dL_appeal_17 : decode cL_appeal 17 = .ok (.ireturn, 1) := by decide +kernel
theorem dL_appeal_18 : decode cL_appeal 18 = .ok (.astore_n 3, 1) := by decide +kernel
theorem dL_appeal_19 : decode cL_appeal 19 = .ok (.iconst 3, 1) := by decide +kernel
theorem dL_appeal_20 : decode cL_appeal 20 = .ok (.ireturn, 1) := by decide +kernel
theorem dL_appeal_21 : decode cL_appeal 21 = .ok (.iconst 0, 1) := by decide +kernel
theorem dL_appeal_22 : decode cL_appeal 22 = .ok (.ireturn, 1) := by decide +kernel
theorem dL_wasReversed_0 : decode cL_wasReversed 0 = .ok (.aload_n 2, 1) := by decide +kernel
theorem dL_wasReversed_1 : decode cL_wasReversed 1 = .ok (.iconst 0, 1) := by decide +kernel
theorem dL_wasReversed_2 : decode cL_wasReversed 2 = .ok (.aload_n 0, 1) := by decide +kernel
theorem dL_wasReversed_3 : decode cL_wasReversed 3 = .ok (.iload_n 1, 1) := by decide +kernel
theorem dL_wasReversed_4 : decode cL_wasReversed 4 = .ok (.invokevirtual 96, 3) := by decide +kernel
theorem dL_wasReversed_7 : decode cL_wasReversed 7 = .ok (.ifCond .eq 7, 3) := by decide +kernel
theorem dL_wasReversed_10 : decode cL_wasReversed 10 = .ok (.lconst 1, 1) := by decide +kernel
theorem dL_wasReversed_11 : decode cL_wasReversed 11 = .ok (.goto 4, 3) := by decide +kernel
theorem dL_wasReversed_14 : decode cL_wasReversed 14 = .ok (.lconst 0, 1) := by decide +kernel
theorem dL_wasReversed_15 : decode cL_wasReversed 15 = .ok (.lastore, 1) := by decide +kernel
theorem dL_wasReversed_16 : decode cL_wasReversed 16 = .ok (.goto 6, 3) := by decide +kernel
theorem dL_wasReversed_19 : decode cL_wasReversed 19 = .ok (.astore_n 3, 1) := by decide +kernel
theorem dL_wasReversed_20 : decode cL_wasReversed 20 = .ok (.iconst 1, 1) := by decide +kernel
theorem dL_wasReversed_21 : decode cL_wasReversed 21 = .ok (.ireturn, 1) := by decide +kernel
theorem dL_wasReversed_22 : decode cL_wasReversed 22 = .ok (.iconst 0, 1) := by decide +kernel
theorem dL_wasReversed_23 : decode cL_wasReversed 23 = .ok (.ireturn, 1) := by decide +kernel
theorem dL_pass_0 : decode cL_pass 0 = .ok (.aload_n 2, 1) := by decide +kernel
theorem dL_pass_1 : decode cL_pass 1 = .ok (.iconst 0, 1) := by decide +kernel
theorem dL_pass_2 : decode cL_pass 2 = .ok (.aload_n 0, 1) := by decide +kernel
theorem dL_pass_3 : decode cL_pass 3 = .ok (.iload_n 1, 1) := by decide +kernel
theorem dL_pass_4 : decode cL_pass 4 = .ok (.invokevirtual 99, 3) := by decide +kernel
theorem dL_pass_7 : decode cL_pass 7 = .ok (.i2l, 1) := by decide +kernel
theorem dL_pass_8 : decode cL_pass 8 = .ok (.lastore, 1) := by decide +kernel
theorem dL_pass_9 : decode cL_pass 9 = .ok (.goto 9, 3) := by decide +kernel
theorem dL_pass_12 : decode cL_pass 12 = .ok (.astore_n 3, 1) := by decide +kernel
theorem dL_pass_13 : decode cL_pass 13 = .ok (.iconst 1, 1) := by decide +kernel
theorem dL_pass_14 : decode cL_pass 14 = .ok (.ireturn, 1) := by decide +kernel
theorem dL_pass_15 : decode cL_pass 15 = .ok (.astore_n 3, 1) := by decide +kernel
theorem dL_pass_16 : decode cL_pass 16 = .ok (.iconst 2, 1) := by decide +kernel
theorem dL_pass_17 : decode cL_pass 17 = .ok (.ireturn, 1) := by decide +kernel
theorem dL_pass_18 : decode cL_pass 18 = .ok (.iconst 0, 1) := by decide +kernel
theorem dL_pass_19 : decode cL_pass 19 = .ok (.ireturn, 1) := by decide +kernel
theorem dL_likeness_0 : decode cL_likeness 0 = .ok (.aload_n 3, 1) := by decide +kernel
theorem dL_likeness_1 : decode cL_likeness 1 = .ok (.iconst 0, 1) := by decide +kernel
theorem dL_likeness_2 : decode cL_likeness 2 = .ok (.aload_n 0, 1) := by decide +kernel
theorem dL_likeness_3 : decode cL_likeness 3 = .ok (.iload_n 1, 1) := by decide +kernel
theorem dL_likeness_4 : decode cL_likeness 4 = .ok (.iload_n 2, 1) := by decide +kernel
theorem dL_likeness_5 : decode cL_likeness 5 = .ok (.invokevirtual 102, 3) := by decide +kernel
theorem dL_likeness_8 : decode cL_likeness 8 = .ok (.i2l, 1) := by decide +kernel
theorem dL_likeness_9 : decode cL_likeness 9 = .ok (.lastore, 1) := by decide +kernel
theorem dL_likeness_10 : decode cL_likeness 10 = .ok (.goto 7, 3) := by decide +kernel
theorem dL_likeness_13 : decode cL_likeness 13 = .ok (.astore 4, 2) := by decide +kernel
theorem dL_likeness_15 : decode cL_likeness 15 = .ok (.iconst 1, 1) := by decide +kernel
theorem dL_likeness_16 : decode cL_likeness 16 = .ok (.ireturn, 1) := by decide +kernel
theorem dL_likeness_17 : decode cL_likeness 17 = .ok (.iconst 0, 1) := by decide +kernel
theorem dL_likeness_18 : decode cL_likeness 18 = .ok (.ireturn, 1) := by decide +kernel
theorem dL_count_0 : decode cL_count 0 = .ok (.aload_n 2, 1) := by decide +kernel
theorem dL_count_1 : decode cL_count 1 = .ok (.iconst 0, 1) := by decide +kernel
theorem dL_count_2 : decode cL_count 2 = .ok (.aload_n 0, 1) := by decide +kernel
theorem dL_count_3 : decode cL_count 3 = .ok (.iload_n 1, 1) := by decide +kernel
theorem dL_count_4 : decode cL_count 4 = .ok (.invokevirtual 105, 3) := by decide +kernel
theorem dL_count_7 : decode cL_count 7 = .ok (.i2l, 1) := by decide +kernel
theorem dL_count_8 : decode cL_count 8 = .ok (.lastore, 1) := by decide +kernel
theorem dL_count_9 : decode cL_count 9 = .ok (.goto 6, 3) := by decide +kernel
theorem dL_count_12 : decode cL_count 12 = .ok (.astore_n 3, 1) := by decide +kernel
theorem dL_count_13 : decode cL_count 13 = .ok (.iconst 1, 1) := by decide +kernel
theorem dL_count_14 : decode cL_count 14 = .ok (.ireturn, 1) := by decide +kernel
theorem dL_count_15 : decode cL_count 15 = .ok (.iconst 0, 1) := by decide +kernel
theorem dL_count_16 : decode cL_count 16 = .ok (.ireturn, 1) := by decide +kernel
theorem dL_meanEvidence_0 : decode cL_meanEvidence 0 = .ok (.aload_n 1, 1) := by decide +kernel
theorem dL_meanEvidence_1 : decode cL_meanEvidence 1 = .ok (.iconst 0, 1) := by decide +kernel
theorem dL_meanEvidence_2 : decode cL_meanEvidence 2 = .ok (.aload_n 0, 1) := by decide +kernel
theorem dL_meanEvidence_3 : decode cL_meanEvidence 3 = .ok (.invokevirtual 109, 3) := by decide +kernel
theorem dL_meanEvidence_6 : decode cL_meanEvidence 6 = .ok (.dastore, 1) := by decide +kernel
theorem dL_meanEvidence_7 : decode cL_meanEvidence 7 = .ok (.goto 6, 3) := by decide +kernel
theorem dL_meanEvidence_10 : decode cL_meanEvidence 10 = .ok (.astore_n 2, 1) := by decide +kernel
theorem dL_meanEvidence_11 : decode cL_meanEvidence 11 = .ok (.iconst 1, 1) := by decide +kernel
theorem dL_meanEvidence_12 : decode cL_meanEvidence 12 = .ok (.ireturn, 1) := by decide +kernel
theorem dL_meanEvidence_13 : decode cL_meanEvidence 13 = .ok (.iconst 0, 1) := by decide +kernel
theorem dL_meanEvidence_14 : decode cL_meanEvidence 14 = .ok (.ireturn, 1) := by decide +kernel
theorem dL_reversedShare_0 : decode cL_reversedShare 0 = .ok (.aload_n 1, 1) := by decide +kernel
theorem dL_reversedShare_1 : decode cL_reversedShare 1 = .ok (.iconst 0, 1) := by decide +kernel
theorem dL_reversedShare_2 : decode cL_reversedShare 2 = .ok (.aload_n 0, 1) := by decide +kernel
theorem dL_reversedShare_3 : decode cL_reversedShare 3 = .ok (.invokevirtual 115, 3) := by decide +kernel
theorem dL_reversedShare_6 : decode cL_reversedShare 6 = .ok (.f2d, 1) := by decide +kernel
theorem dL_reversedShare_7 : decode cL_reversedShare 7 = .ok (.dastore, 1) := by decide +kernel
theorem dL_reversedShare_8 : decode cL_reversedShare 8 = .ok (.goto 6, 3) := by decide +kernel
theorem dL_reversedShare_11 : decode cL_reversedShare 11 = .ok (.astore_n 2, 1) := by decide +kernel
theorem dL_reversedShare_12 : decode cL_reversedShare 12 = .ok (.iconst 1, 1) := by decide +kernel
theorem dL_reversedShare_13 : decode cL_reversedShare 13 = .ok (.ireturn, 1) := by decide +kernel
theorem dL_reversedShare_14 : decode cL_reversedShare 14 = .ok (.iconst 0, 1) := by decide +kernel
theorem dL_reversedShare_15 : decode cL_reversedShare 15 = .ok (.ireturn, 1) := by decide +kernel
