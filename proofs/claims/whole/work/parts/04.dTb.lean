theorem d_T_play_21 : decode b_T_play 21 = .ok (.new 142, 3) := by decide +kernel
theorem d_T_play_24 : decode b_T_play 24 = .ok (.dup, 1) := by decide +kernel
theorem d_T_play_25 : decode b_T_play 25 = .ok (.lload_n 1, 1) := by decide +kernel
theorem d_T_play_26 : decode b_T_play 26 = .ok (.invokespecial 144, 3) := by decide +kernel
theorem d_T_play_29 : decode b_T_play 29 = .ok (.astore 4, 2) := by decide +kernel
theorem d_T_play_31 : decode b_T_play 31 = .ok (.iconst 0, 1) := by decide +kernel
theorem d_T_play_32 : decode b_T_play 32 = .ok (.istore 5, 2) := by decide +kernel
theorem d_T_play_34 : decode b_T_play 34 = .ok (.iload 5, 2) := by decide +kernel
theorem d_T_play_36 : decode b_T_play 36 = .ok (.iload_n 3, 1) := by decide +kernel
theorem d_T_play_37 : decode b_T_play 37 = .ok (.if_icmp .ge 15, 3) := by decide +kernel
theorem d_T_play_40 : decode b_T_play 40 = .ok (.aload_n 0, 1) := by decide +kernel
theorem d_T_play_41 : decode b_T_play 41 = .ok (.aload 4, 2) := by decide +kernel
theorem d_T_play_43 : decode b_T_play 43 = .ok (.invokevirtual 147, 3) := by decide +kernel
theorem d_T_play_46 : decode b_T_play 46 = .ok (.iinc 5 1, 3) := by decide +kernel
theorem d_T_play_49 : decode b_T_play 49 = .ok (.goto (-15), 3) := by decide +kernel
theorem d_T_play_52 : decode b_T_play 52 = .ok (.iconst 0, 1) := by decide +kernel
theorem d_T_play_53 : decode b_T_play 53 = .ok (.istore 5, 2) := by decide +kernel
theorem d_T_play_55 : decode b_T_play 55 = .ok (.iconst 0, 1) := by decide +kernel
theorem d_T_play_56 : decode b_T_play 56 = .ok (.istore 6, 2) := by decide +kernel
theorem d_T_play_58 : decode b_T_play 58 = .ok (.iload 6, 2) := by decide +kernel
theorem d_T_play_60 : decode b_T_play 60 = .ok (.aload_n 0, 1) := by decide +kernel
theorem d_T_play_61 : decode b_T_play 61 = .ok (.getfield 33, 3) := by decide +kernel
theorem d_T_play_64 : decode b_T_play 64 = .ok (.if_icmp .ge 20, 3) := by decide +kernel
theorem d_T_play_67 : decode b_T_play 67 = .ok (.iload 5, 2) := by decide +kernel
theorem d_T_play_69 : decode b_T_play 69 = .ok (.aload_n 0, 1) := by decide +kernel
theorem d_T_play_70 : decode b_T_play 70 = .ok (.iload 6, 2) := by decide +kernel
theorem d_T_play_72 : decode b_T_play 72 = .ok (.invokevirtual 151, 3) := by decide +kernel
theorem d_T_play_75 : decode b_T_play 75 = .ok (.iadd, 1) := by decide +kernel
theorem d_T_play_76 : decode b_T_play 76 = .ok (.istore 5, 2) := by decide +kernel
theorem d_T_play_78 : decode b_T_play 78 = .ok (.iinc 6 1, 3) := by decide +kernel
theorem d_T_play_81 : decode b_T_play 81 = .ok (.goto (-23), 3) := by decide +kernel
theorem d_T_play_84 : decode b_T_play 84 = .ok (.iload 5, 2) := by decide +kernel
theorem d_T_play_86 : decode b_T_play 86 = .ok (.ireturn, 1) := by decide +kernel
theorem d_T_find_0 : decode b_T_find 0 = .ok (.aload_n 0, 1) := by decide +kernel
theorem d_T_find_1 : decode b_T_find 1 = .ok (.iload_n 1, 1) := by decide +kernel
theorem d_T_find_2 : decode b_T_find 2 = .ok (.invokevirtual 40, 3) := by decide +kernel
theorem d_T_find_5 : decode b_T_find 5 = .ok (.astore 6, 2) := by decide +kernel
theorem d_T_find_7 : decode b_T_find 7 = .ok (.aload 6, 2) := by decide +kernel
theorem d_T_find_9 : decode b_T_find 9 = .ok (.ifnonnull 5, 3) := by decide +kernel
theorem d_T_find_12 : decode b_T_find 12 = .ok (.iconst (-1), 1) := by decide +kernel
theorem d_T_find_13 : decode b_T_find 13 = .ok (.ireturn, 1) := by decide +kernel
theorem d_T_find_14 : decode b_T_find 14 = .ok (.aload_n 0, 1) := by decide +kernel
theorem d_T_find_15 : decode b_T_find 15 = .ok (.getfield 22, 3) := by decide +kernel
theorem d_T_find_18 : decode b_T_find 18 = .ok (.aload 6, 2) := by decide +kernel
theorem d_T_find_20 : decode b_T_find 20 = .ok (.getfield 65, 3) := by decide +kernel
theorem d_T_find_23 : decode b_T_find 23 = .ok (.iload_n 2, 1) := by decide +kernel
theorem d_T_find_24 : decode b_T_find 24 = .ok (.lload_n 3, 1) := by decide +kernel
theorem d_T_find_25 : decode b_T_find 25 = .ok (.aload_n 0, 1) := by decide +kernel
theorem d_T_find_26 : decode b_T_find 26 = .ok (.getfield 29, 3) := by decide +kernel
theorem d_T_find_29 : decode b_T_find 29 = .ok (.invokevirtual 154, 3) := by decide +kernel
theorem d_T_find_32 : decode b_T_find 32 = .ok (.aload_n 0, 1) := by decide +kernel
theorem d_T_find_33 : decode b_T_find 33 = .ok (.aload_n 0, 1) := by decide +kernel
theorem d_T_find_34 : decode b_T_find 34 = .ok (.getfield 22, 3) := by decide +kernel
theorem d_T_find_37 : decode b_T_find 37 = .ok (.aload_n 0, 1) := by decide +kernel
theorem d_T_find_38 : decode b_T_find 38 = .ok (.getfield 29, 3) := by decide +kernel
theorem d_T_find_41 : decode b_T_find 41 = .ok (.iload 5, 2) := by decide +kernel
theorem d_T_find_43 : decode b_T_find 43 = .ok (.invokevirtual 121, 3) := by decide +kernel
theorem d_T_find_46 : decode b_T_find 46 = .ok (.invokevirtual 125, 3) := by decide +kernel
theorem d_T_find_49 : decode b_T_find 49 = .ok (.ireturn, 1) := by decide +kernel
theorem d_T_counts_0 : decode b_T_counts 0 = .ok (.aload_n 0, 1) := by decide +kernel
theorem d_T_counts_1 : decode b_T_counts 1 = .ok (.iload_n 1, 1) := by decide +kernel
theorem d_T_counts_2 : decode b_T_counts 2 = .ok (.invokevirtual 40, 3) := by decide +kernel
theorem d_T_counts_5 : decode b_T_counts 5 = .ok (.astore_n 2, 1) := by decide +kernel
theorem d_T_counts_6 : decode b_T_counts 6 = .ok (.aload_n 2, 1) := by decide +kernel
theorem d_T_counts_7 : decode b_T_counts 7 = .ok (.ifnonnull 7, 3) := by decide +kernel
theorem d_T_counts_10 : decode b_T_counts 10 = .ok (.iconst (-1), 1) := by decide +kernel
theorem d_T_counts_11 : decode b_T_counts 11 = .ok (.goto 10, 3) := by decide +kernel
theorem d_T_counts_14 : decode b_T_counts 14 = .ok (.aload_n 2, 1) := by decide +kernel
theorem d_T_counts_15 : decode b_T_counts 15 = .ok (.getfield 65, 3) := by decide +kernel
theorem d_T_counts_18 : decode b_T_counts 18 = .ok (.invokevirtual 117, 3) := by decide +kernel
theorem d_T_counts_21 : decode b_T_counts 21 = .ok (.ireturn, 1) := by decide +kernel
theorem d_T_deskAt_0 : decode b_T_deskAt 0 = .ok (.iload_n 1, 1) := by decide +kernel
theorem d_T_deskAt_1 : decode b_T_deskAt 1 = .ok (.ifCond .lt 20, 3) := by decide +kernel
theorem d_T_deskAt_4 : decode b_T_deskAt 4 = .ok (.iload_n 1, 1) := by decide +kernel
theorem d_T_deskAt_5 : decode b_T_deskAt 5 = .ok (.aload_n 0, 1) := by decide +kernel
theorem d_T_deskAt_6 : decode b_T_deskAt 6 = .ok (.getfield 33, 3) := by decide +kernel
theorem d_T_deskAt_9 : decode b_T_deskAt 9 = .ok (.if_icmp .ge 12, 3) := by decide +kernel
theorem d_T_deskAt_12 : decode b_T_deskAt 12 = .ok (.aload_n 0, 1) := by decide +kernel
theorem d_T_deskAt_13 : decode b_T_deskAt 13 = .ok (.getfield 11, 3) := by decide +kernel
theorem d_T_deskAt_16 : decode b_T_deskAt 16 = .ok (.iload_n 1, 1) := by decide +kernel
theorem d_T_deskAt_17 : decode b_T_deskAt 17 = .ok (.aaload, 1) := by decide +kernel
theorem d_T_deskAt_18 : decode b_T_deskAt 18 = .ok (.goto 4, 3) := by decide +kernel
theorem d_T_deskAt_21 : decode b_T_deskAt 21 = .ok (.aconst_null, 1) := by decide +kernel
theorem d_T_deskAt_22 : decode b_T_deskAt 22 = .ok (.areturn, 1) := by decide +kernel
theorem d_T_numberOrNone_0 : decode b_T_numberOrNone 0 = .ok (.iload_n 1, 1) := by decide +kernel
theorem d_T_numberOrNone_1 : decode b_T_numberOrNone 1 = .ok (.iconst (-1), 1) := by decide +kernel
theorem d_T_numberOrNone_2 : decode b_T_numberOrNone 2 = .ok (.if_icmp .ne 7, 3) := by decide +kernel
theorem d_T_numberOrNone_5 : decode b_T_numberOrNone 5 = .ok (.iconst (-1), 1) := by decide +kernel
theorem d_T_numberOrNone_6 : decode b_T_numberOrNone 6 = .ok (.goto 12, 3) := by decide +kernel
theorem d_T_numberOrNone_9 : decode b_T_numberOrNone 9 = .ok (.aload_n 0, 1) := by decide +kernel
theorem d_T_numberOrNone_10 : decode b_T_numberOrNone 10 = .ok (.getfield 22, 3) := by decide +kernel
theorem d_T_numberOrNone_13 : decode b_T_numberOrNone 13 = .ok (.getfield 158, 3) := by decide +kernel
theorem d_T_numberOrNone_16 : decode b_T_numberOrNone 16 = .ok (.iload_n 1, 1) := by decide +kernel
theorem d_T_numberOrNone_17 : decode b_T_numberOrNone 17 = .ok (.iaload, 1) := by decide +kernel
theorem d_T_numberOrNone_18 : decode b_T_numberOrNone 18 = .ok (.ireturn, 1) := by decide +kernel
theorem d_T_joined_0 : decode b_T_joined 0 = .ok (.aload_n 0, 1) := by decide +kernel
theorem d_T_joined_1 : decode b_T_joined 1 = .ok (.iload_n 1, 1) := by decide +kernel
theorem d_T_joined_2 : decode b_T_joined 2 = .ok (.invokevirtual 40, 3) := by decide +kernel
theorem d_T_joined_5 : decode b_T_joined 5 = .ok (.astore_n 3, 1) := by decide +kernel
theorem d_T_joined_6 : decode b_T_joined 6 = .ok (.aload_n 0, 1) := by decide +kernel
theorem d_T_joined_7 : decode b_T_joined 7 = .ok (.iload_n 2, 1) := by decide +kernel
theorem d_T_joined_8 : decode b_T_joined 8 = .ok (.invokevirtual 40, 3) := by decide +kernel
theorem d_T_joined_11 : decode b_T_joined 11 = .ok (.astore 4, 2) := by decide +kernel
theorem d_T_joined_13 : decode b_T_joined 13 = .ok (.aload_n 3, 1) := by decide +kernel
theorem d_T_joined_14 : decode b_T_joined 14 = .ok (.ifnull 13, 3) := by decide +kernel
theorem d_T_joined_17 : decode b_T_joined 17 = .ok (.aload 4, 2) := by decide +kernel
theorem d_T_joined_19 : decode b_T_joined 19 = .ok (.ifnull 8, 3) := by decide +kernel
theorem d_T_joined_22 : decode b_T_joined 22 = .ok (.iload_n 1, 1) := by decide +kernel
theorem d_T_joined_23 : decode b_T_joined 23 = .ok (.iload_n 2, 1) := by decide +kernel
theorem d_T_joined_24 : decode b_T_joined 24 = .ok (.if_icmp .ne 5, 3) := by decide +kernel
theorem d_T_joined_27 : decode b_T_joined 27 = .ok (.aconst_null, 1) := by decide +kernel
theorem d_T_joined_28 : decode b_T_joined 28 = .ok (.areturn, 1) := by decide +kernel
theorem d_T_joined_29 : decode b_T_joined 29 = .ok (.aload_n 3, 1) := by decide +kernel
theorem d_T_joined_30 : decode b_T_joined 30 = .ok (.aload 4, 2) := by decide +kernel
theorem d_T_joined_32 : decode b_T_joined 32 = .ok (.invokevirtual 161, 3) := by decide +kernel
theorem d_T_joined_35 : decode b_T_joined 35 = .ok (.aload_n 3, 1) := by decide +kernel
theorem d_T_joined_36 : decode b_T_joined 36 = .ok (.areturn, 1) := by decide +kernel
theorem d_T_tellReplacing_0 : decode b_T_tellReplacing 0 = .ok (.aload_n 1, 1) := by decide +kernel
theorem d_T_tellReplacing_1 : decode b_T_tellReplacing 1 = .ok (.invokevirtual 165, 3) := by decide +kernel
theorem d_T_tellReplacing_4 : decode b_T_tellReplacing 4 = .ok (.istore 6, 2) := by decide +kernel
theorem d_T_tellReplacing_6 : decode b_T_tellReplacing 6 = .ok (.aload_n 0, 1) := by decide +kernel
theorem d_T_tellReplacing_7 : decode b_T_tellReplacing 7 = .ok (.getfield 22, 3) := by decide +kernel
theorem d_T_tellReplacing_10 : decode b_T_tellReplacing 10 = .ok (.iload 6, 2) := by decide +kernel
theorem d_T_tellReplacing_12 : decode b_T_tellReplacing 12 = .ok (.iload_n 2, 1) := by decide +kernel
theorem d_T_tellReplacing_13 : decode b_T_tellReplacing 13 = .ok (.lload_n 3, 1) := by decide +kernel
theorem d_T_tellReplacing_14 : decode b_T_tellReplacing 14 = .ok (.aload_n 1, 1) := by decide +kernel
theorem d_T_tellReplacing_15 : decode b_T_tellReplacing 15 = .ok (.invokevirtual 168, 3) := by decide +kernel
theorem d_T_tellReplacing_18 : decode b_T_tellReplacing 18 = .ok (.aload 5, 2) := by decide +kernel
theorem d_T_tellReplacing_20 : decode b_T_tellReplacing 20 = .ok (.invokevirtual 171, 3) := by decide +kernel
theorem d_T_tellReplacing_23 : decode b_T_tellReplacing 23 = .ok (.istore 7, 2) := by decide +kernel
theorem d_T_tellReplacing_25 : decode b_T_tellReplacing 25 = .ok (.iload 7, 2) := by decide +kernel
theorem d_T_tellReplacing_27 : decode b_T_tellReplacing 27 = .ok (.iconst (-1), 1) := by decide +kernel
theorem d_T_tellReplacing_28 : decode b_T_tellReplacing 28 = .ok (.if_icmp .ne 6, 3) := by decide +kernel
theorem d_T_tellReplacing_31 : decode b_T_tellReplacing 31 = .ok (.bipush (-2), 2) := by decide +kernel
theorem d_T_tellReplacing_33 : decode b_T_tellReplacing 33 = .ok (.ireturn, 1) := by decide +kernel
theorem d_T_tellReplacing_34 : decode b_T_tellReplacing 34 = .ok (.aload_n 1, 1) := by decide +kernel
theorem d_T_tellReplacing_35 : decode b_T_tellReplacing 35 = .ok (.iload 7, 2) := by decide +kernel
theorem d_T_tellReplacing_37 : decode b_T_tellReplacing 37 = .ok (.invokevirtual 175, 3) := by decide +kernel
theorem d_T_tellReplacing_40 : decode b_T_tellReplacing 40 = .ok (.iload 6, 2) := by decide +kernel
theorem d_T_tellReplacing_42 : decode b_T_tellReplacing 42 = .ok (.ireturn, 1) := by decide +kernel
theorem d_T_playTurn_0 : decode b_T_playTurn 0 = .ok (.aload_n 1, 1) := by decide +kernel
theorem d_T_playTurn_1 : decode b_T_playTurn 1 = .ok (.aload_n 0, 1) := by decide +kernel
theorem d_T_playTurn_2 : decode b_T_playTurn 2 = .ok (.getfield 33, 3) := by decide +kernel
theorem d_T_playTurn_5 : decode b_T_playTurn 5 = .ok (.invokevirtual 178, 3) := by decide +kernel
theorem d_T_playTurn_8 : decode b_T_playTurn 8 = .ok (.istore_n 2, 1) := by decide +kernel
theorem d_T_playTurn_9 : decode b_T_playTurn 9 = .ok (.aload_n 1, 1) := by decide +kernel
theorem d_T_playTurn_10 : decode b_T_playTurn 10 = .ok (.iconst 4, 1) := by decide +kernel
theorem d_T_playTurn_11 : decode b_T_playTurn 11 = .ok (.invokevirtual 178, 3) := by decide +kernel
theorem d_T_playTurn_14 : decode b_T_playTurn 14 = .ok (.iconst 3, 1) := by decide +kernel
theorem d_T_playTurn_15 : decode b_T_playTurn 15 = .ok (.if_icmp .ge 48, 3) := by decide +kernel
theorem d_T_playTurn_18 : decode b_T_playTurn 18 = .ok (.aload_n 1, 1) := by decide +kernel
theorem d_T_playTurn_19 : decode b_T_playTurn 19 = .ok (.iconst 4, 1) := by decide +kernel
theorem d_T_playTurn_20 : decode b_T_playTurn 20 = .ok (.invokevirtual 178, 3) := by decide +kernel
theorem d_T_playTurn_23 : decode b_T_playTurn 23 = .ok (.istore_n 3, 1) := by decide +kernel
theorem d_T_playTurn_24 : decode b_T_playTurn 24 = .ok (.aload_n 1, 1) := by decide +kernel
theorem d_T_playTurn_25 : decode b_T_playTurn 25 = .ok (.iconst 2, 1) := by decide +kernel
theorem d_T_playTurn_26 : decode b_T_playTurn 26 = .ok (.invokevirtual 178, 3) := by decide +kernel
theorem d_T_playTurn_29 : decode b_T_playTurn 29 = .ok (.istore 4, 2) := by decide +kernel
theorem d_T_playTurn_31 : decode b_T_playTurn 31 = .ok (.aload_n 1, 1) := by decide +kernel
theorem d_T_playTurn_32 : decode b_T_playTurn 32 = .ok (.iconst 3, 1) := by decide +kernel
theorem d_T_playTurn_33 : decode b_T_playTurn 33 = .ok (.invokevirtual 178, 3) := by decide +kernel
theorem d_T_playTurn_36 : decode b_T_playTurn 36 = .ok (.istore 5, 2) := by decide +kernel
theorem d_T_playTurn_38 : decode b_T_playTurn 38 = .ok (.aload_n 1, 1) := by decide +kernel
theorem d_T_playTurn_39 : decode b_T_playTurn 39 = .ok (.iconst 5, 1) := by decide +kernel
theorem d_T_playTurn_40 : decode b_T_playTurn 40 = .ok (.invokevirtual 178, 3) := by decide +kernel
theorem d_T_playTurn_43 : decode b_T_playTurn 43 = .ok (.istore 6, 2) := by decide +kernel
theorem d_T_playTurn_45 : decode b_T_playTurn 45 = .ok (.aload_n 0, 1) := by decide +kernel
theorem d_T_playTurn_46 : decode b_T_playTurn 46 = .ok (.iload_n 2, 1) := by decide +kernel
theorem d_T_playTurn_47 : decode b_T_playTurn 47 = .ok (.iload_n 3, 1) := by decide +kernel
theorem d_T_playTurn_48 : decode b_T_playTurn 48 = .ok (.iload 4, 2) := by decide +kernel
theorem d_T_playTurn_50 : decode b_T_playTurn 50 = .ok (.iload 5, 2) := by decide +kernel
theorem d_T_playTurn_52 : decode b_T_playTurn 52 = .ok (.i2l, 1) := by decide +kernel
theorem d_T_playTurn_53 : decode b_T_playTurn 53 = .ok (.iload 6, 2) := by decide +kernel
theorem d_T_playTurn_55 : decode b_T_playTurn 55 = .ok (.i2l, 1) := by decide +kernel
theorem d_T_playTurn_56 : decode b_T_playTurn 56 = .ok (.invokevirtual 181, 3) := by decide +kernel
theorem d_T_playTurn_59 : decode b_T_playTurn 59 = .ok (.pop, 1) := by decide +kernel
theorem d_T_playTurn_60 : decode b_T_playTurn 60 = .ok (.goto 17, 3) := by decide +kernel
theorem d_T_playTurn_63 : decode b_T_playTurn 63 = .ok (.aload_n 0, 1) := by decide +kernel
theorem d_T_playTurn_64 : decode b_T_playTurn 64 = .ok (.iload_n 2, 1) := by decide +kernel
theorem d_T_playTurn_65 : decode b_T_playTurn 65 = .ok (.aload_n 1, 1) := by decide +kernel
theorem d_T_playTurn_66 : decode b_T_playTurn 66 = .ok (.aload_n 0, 1) := by decide +kernel
theorem d_T_playTurn_67 : decode b_T_playTurn 67 = .ok (.getfield 33, 3) := by decide +kernel
theorem d_T_playTurn_70 : decode b_T_playTurn 70 = .ok (.invokevirtual 178, 3) := by decide +kernel
theorem d_T_playTurn_73 : decode b_T_playTurn 73 = .ok (.invokevirtual 78, 3) := by decide +kernel
theorem d_T_playTurn_76 : decode b_T_playTurn 76 = .ok (.pop, 1) := by decide +kernel
theorem d_T_playTurn_77 : decode b_T_playTurn 77 = .ok (.return_, 1) := by decide +kernel
theorem d_T_areThingAndKind_0 : decode b_T_areThingAndKind 0 = .ok (.iload_n 0, 1) := by decide +kernel
theorem d_T_areThingAndKind_1 : decode b_T_areThingAndKind 1 = .ok (.ifCond .lt 23, 3) := by decide +kernel
theorem d_T_areThingAndKind_4 : decode b_T_areThingAndKind 4 = .ok (.iload_n 0, 1) := by decide +kernel
theorem d_T_areThingAndKind_5 : decode b_T_areThingAndKind 5 = .ok (.bipush 100, 2) := by decide +kernel
theorem d_T_areThingAndKind_7 : decode b_T_areThingAndKind 7 = .ok (.if_icmp .ge 17, 3) := by decide +kernel
theorem d_T_areThingAndKind_10 : decode b_T_areThingAndKind 10 = .ok (.iload_n 1, 1) := by decide +kernel
theorem d_T_areThingAndKind_11 : decode b_T_areThingAndKind 11 = .ok (.ifCond .lt 13, 3) := by decide +kernel
theorem d_T_areThingAndKind_14 : decode b_T_areThingAndKind 14 = .ok (.iload_n 1, 1) := by decide +kernel
theorem d_T_areThingAndKind_15 : decode b_T_areThingAndKind 15 = .ok (.bipush 10, 2) := by decide +kernel
theorem d_T_areThingAndKind_17 : decode b_T_areThingAndKind 17 = .ok (.if_icmp .ge 7, 3) := by decide +kernel
theorem d_T_areThingAndKind_20 : decode b_T_areThingAndKind 20 = .ok (.iconst 1, 1) := by decide +kernel
theorem d_T_areThingAndKind_21 : decode b_T_areThingAndKind 21 = .ok (.goto 4, 3) := by decide +kernel
theorem d_T_areThingAndKind_24 : decode b_T_areThingAndKind 24 = .ok (.iconst 0, 1) := by decide +kernel
theorem d_T_areThingAndKind_25 : decode b_T_areThingAndKind 25 = .ok (.ireturn, 1) := by decide +kernel
theorem d_T_spotOf_0 : decode b_T_spotOf 0 = .ok (.iload_n 0, 1) := by decide +kernel
theorem d_T_spotOf_1 : decode b_T_spotOf 1 = .ok (.bipush 10, 2) := by decide +kernel
theorem d_T_spotOf_3 : decode b_T_spotOf 3 = .ok (.imul, 1) := by decide +kernel
theorem d_T_spotOf_4 : decode b_T_spotOf 4 = .ok (.iload_n 1, 1) := by decide +kernel
theorem d_T_spotOf_5 : decode b_T_spotOf 5 = .ok (.iadd, 1) := by decide +kernel
theorem d_T_spotOf_6 : decode b_T_spotOf 6 = .ok (.ldc 185, 2) := by decide +kernel
theorem d_T_spotOf_8 : decode b_T_spotOf 8 = .ok (.imul, 1) := by decide +kernel
theorem d_T_spotOf_9 : decode b_T_spotOf 9 = .ok (.iload_n 2, 1) := by decide +kernel
theorem d_T_spotOf_10 : decode b_T_spotOf 10 = .ok (.iadd, 1) := by decide +kernel
theorem d_T_spotOf_11 : decode b_T_spotOf 11 = .ok (.ireturn, 1) := by decide +kernel
theorem d_T_thingOf_0 : decode b_T_thingOf 0 = .ok (.iload_n 0, 1) := by decide +kernel
theorem d_T_thingOf_1 : decode b_T_thingOf 1 = .ok (.ldc 185, 2) := by decide +kernel
theorem d_T_thingOf_3 : decode b_T_thingOf 3 = .ok (.idiv, 1) := by decide +kernel
theorem d_T_thingOf_4 : decode b_T_thingOf 4 = .ok (.bipush 10, 2) := by decide +kernel
theorem d_T_thingOf_6 : decode b_T_thingOf 6 = .ok (.idiv, 1) := by decide +kernel
theorem d_T_thingOf_7 : decode b_T_thingOf 7 = .ok (.ireturn, 1) := by decide +kernel
theorem d_T_kindOf_0 : decode b_T_kindOf 0 = .ok (.iload_n 0, 1) := by decide +kernel
theorem d_T_kindOf_1 : decode b_T_kindOf 1 = .ok (.ldc 185, 2) := by decide +kernel
theorem d_T_kindOf_3 : decode b_T_kindOf 3 = .ok (.idiv, 1) := by decide +kernel
theorem d_T_kindOf_4 : decode b_T_kindOf 4 = .ok (.bipush 10, 2) := by decide +kernel
theorem d_T_kindOf_6 : decode b_T_kindOf 6 = .ok (.irem, 1) := by decide +kernel
theorem d_T_kindOf_7 : decode b_T_kindOf 7 = .ok (.ireturn, 1) := by decide +kernel
theorem d_T_dayOf_0 : decode b_T_dayOf 0 = .ok (.iload_n 0, 1) := by decide +kernel
theorem d_T_dayOf_1 : decode b_T_dayOf 1 = .ok (.ldc 185, 2) := by decide +kernel
theorem d_T_dayOf_3 : decode b_T_dayOf 3 = .ok (.irem, 1) := by decide +kernel
theorem d_T_dayOf_4 : decode b_T_dayOf 4 = .ok (.ireturn, 1) := by decide +kernel
