theorem d_A_isLater_87 : decode b_A_isLater 87 = .ok (.iconst 1, 1) := by decide +kernel
theorem d_A_isLater_88 : decode b_A_isLater 88 = .ok (.goto 4, 3) := by decide +kernel
theorem d_A_isLater_91 : decode b_A_isLater 91 = .ok (.iconst 0, 1) := by decide +kernel
theorem d_A_isLater_92 : decode b_A_isLater 92 = .ok (.ireturn, 1) := by decide +kernel
theorem d_A_countConflicts_0 : decode b_A_countConflicts 0 = .ok (.iconst 0, 1) := by decide +kernel
theorem d_A_countConflicts_1 : decode b_A_countConflicts 1 = .ok (.istore_n 2, 1) := by decide +kernel
theorem d_A_countConflicts_2 : decode b_A_countConflicts 2 = .ok (.iconst 0, 1) := by decide +kernel
theorem d_A_countConflicts_3 : decode b_A_countConflicts 3 = .ok (.istore_n 3, 1) := by decide +kernel
theorem d_A_countConflicts_4 : decode b_A_countConflicts 4 = .ok (.iload_n 3, 1) := by decide +kernel
theorem d_A_countConflicts_5 : decode b_A_countConflicts 5 = .ok (.aload_n 0, 1) := by decide +kernel
theorem d_A_countConflicts_6 : decode b_A_countConflicts 6 = .ok (.getfield 36, 3) := by decide +kernel
theorem d_A_countConflicts_9 : decode b_A_countConflicts 9 = .ok (.if_icmp .ge 29, 3) := by decide +kernel
theorem d_A_countConflicts_12 : decode b_A_countConflicts 12 = .ok (.aload_n 0, 1) := by decide +kernel
theorem d_A_countConflicts_13 : decode b_A_countConflicts 13 = .ok (.iload_n 3, 1) := by decide +kernel
theorem d_A_countConflicts_14 : decode b_A_countConflicts 14 = .ok (.invokevirtual 74, 3) := by decide +kernel
theorem d_A_countConflicts_17 : decode b_A_countConflicts 17 = .ok (.ifCond .eq 15, 3) := by decide +kernel
theorem d_A_countConflicts_20 : decode b_A_countConflicts 20 = .ok (.aload_n 0, 1) := by decide +kernel
theorem d_A_countConflicts_21 : decode b_A_countConflicts 21 = .ok (.iload_n 3, 1) := by decide +kernel
theorem d_A_countConflicts_22 : decode b_A_countConflicts 22 = .ok (.aload_n 1, 1) := by decide +kernel
theorem d_A_countConflicts_23 : decode b_A_countConflicts 23 = .ok (.invokevirtual 77, 3) := by decide +kernel
theorem d_A_countConflicts_26 : decode b_A_countConflicts 26 = .ok (.ifCond .eq 6, 3) := by decide +kernel
theorem d_A_countConflicts_29 : decode b_A_countConflicts 29 = .ok (.iinc 2 1, 3) := by decide +kernel
theorem d_A_countConflicts_32 : decode b_A_countConflicts 32 = .ok (.iinc 3 1, 3) := by decide +kernel
theorem d_A_countConflicts_35 : decode b_A_countConflicts 35 = .ok (.goto (-31), 3) := by decide +kernel
theorem d_A_countConflicts_38 : decode b_A_countConflicts 38 = .ok (.iload_n 2, 1) := by decide +kernel
theorem d_A_countConflicts_39 : decode b_A_countConflicts 39 = .ok (.ireturn, 1) := by decide +kernel
theorem d_A_conflictSpot_0 : decode b_A_conflictSpot 0 = .ok (.iconst 0, 1) := by decide +kernel
theorem d_A_conflictSpot_1 : decode b_A_conflictSpot 1 = .ok (.istore 4, 2) := by decide +kernel
theorem d_A_conflictSpot_3 : decode b_A_conflictSpot 3 = .ok (.iconst 0, 1) := by decide +kernel
theorem d_A_conflictSpot_4 : decode b_A_conflictSpot 4 = .ok (.istore 5, 2) := by decide +kernel
theorem d_A_conflictSpot_6 : decode b_A_conflictSpot 6 = .ok (.iload 5, 2) := by decide +kernel
theorem d_A_conflictSpot_8 : decode b_A_conflictSpot 8 = .ok (.aload_n 0, 1) := by decide +kernel
theorem d_A_conflictSpot_9 : decode b_A_conflictSpot 9 = .ok (.getfield 36, 3) := by decide +kernel
theorem d_A_conflictSpot_12 : decode b_A_conflictSpot 12 = .ok (.if_icmp .ge 60, 3) := by decide +kernel
theorem d_A_conflictSpot_15 : decode b_A_conflictSpot 15 = .ok (.aload_n 0, 1) := by decide +kernel
theorem d_A_conflictSpot_16 : decode b_A_conflictSpot 16 = .ok (.getfield 15, 3) := by decide +kernel
theorem d_A_conflictSpot_19 : decode b_A_conflictSpot 19 = .ok (.aload_n 0, 1) := by decide +kernel
theorem d_A_conflictSpot_20 : decode b_A_conflictSpot 20 = .ok (.getfield 33, 3) := by decide +kernel
theorem d_A_conflictSpot_23 : decode b_A_conflictSpot 23 = .ok (.iload 5, 2) := by decide +kernel
theorem d_A_conflictSpot_25 : decode b_A_conflictSpot 25 = .ok (.iaload, 1) := by decide +kernel
theorem d_A_conflictSpot_26 : decode b_A_conflictSpot 26 = .ok (.iaload, 1) := by decide +kernel
theorem d_A_conflictSpot_27 : decode b_A_conflictSpot 27 = .ok (.istore 6, 2) := by decide +kernel
theorem d_A_conflictSpot_29 : decode b_A_conflictSpot 29 = .ok (.iload 6, 2) := by decide +kernel
theorem d_A_conflictSpot_31 : decode b_A_conflictSpot 31 = .ok (.iload_n 2, 1) := by decide +kernel
theorem d_A_conflictSpot_32 : decode b_A_conflictSpot 32 = .ok (.if_icmp .lt 34, 3) := by decide +kernel
theorem d_A_conflictSpot_35 : decode b_A_conflictSpot 35 = .ok (.aload_n 0, 1) := by decide +kernel
theorem d_A_conflictSpot_36 : decode b_A_conflictSpot 36 = .ok (.iload 5, 2) := by decide +kernel
theorem d_A_conflictSpot_38 : decode b_A_conflictSpot 38 = .ok (.invokevirtual 74, 3) := by decide +kernel
theorem d_A_conflictSpot_41 : decode b_A_conflictSpot 41 = .ok (.ifCond .eq 25, 3) := by decide +kernel
theorem d_A_conflictSpot_44 : decode b_A_conflictSpot 44 = .ok (.aload_n 0, 1) := by decide +kernel
theorem d_A_conflictSpot_45 : decode b_A_conflictSpot 45 = .ok (.iload 5, 2) := by decide +kernel
theorem d_A_conflictSpot_47 : decode b_A_conflictSpot 47 = .ok (.aload_n 1, 1) := by decide +kernel
theorem d_A_conflictSpot_48 : decode b_A_conflictSpot 48 = .ok (.invokevirtual 77, 3) := by decide +kernel
theorem d_A_conflictSpot_51 : decode b_A_conflictSpot 51 = .ok (.ifCond .eq 15, 3) := by decide +kernel
theorem d_A_conflictSpot_54 : decode b_A_conflictSpot 54 = .ok (.iload 4, 2) := by decide +kernel
theorem d_A_conflictSpot_56 : decode b_A_conflictSpot 56 = .ok (.iload_n 3, 1) := by decide +kernel
theorem d_A_conflictSpot_57 : decode b_A_conflictSpot 57 = .ok (.if_icmp .ne 6, 3) := by decide +kernel
theorem d_A_conflictSpot_60 : decode b_A_conflictSpot 60 = .ok (.iload 6, 2) := by decide +kernel
theorem d_A_conflictSpot_62 : decode b_A_conflictSpot 62 = .ok (.ireturn, 1) := by decide +kernel
theorem d_A_conflictSpot_63 : decode b_A_conflictSpot 63 = .ok (.iinc 4 1, 3) := by decide +kernel
theorem d_A_conflictSpot_66 : decode b_A_conflictSpot 66 = .ok (.iinc 5 1, 3) := by decide +kernel
theorem d_A_conflictSpot_69 : decode b_A_conflictSpot 69 = .ok (.goto (-63), 3) := by decide +kernel
theorem d_A_conflictSpot_72 : decode b_A_conflictSpot 72 = .ok (.iconst (-1), 1) := by decide +kernel
theorem d_A_conflictSpot_73 : decode b_A_conflictSpot 73 = .ok (.ireturn, 1) := by decide +kernel
theorem d_A_isFirstOfSpot_0 : decode b_A_isFirstOfSpot 0 = .ok (.iload_n 1, 1) := by decide +kernel
theorem d_A_isFirstOfSpot_1 : decode b_A_isFirstOfSpot 1 = .ok (.ifCond .eq 30, 3) := by decide +kernel
theorem d_A_isFirstOfSpot_4 : decode b_A_isFirstOfSpot 4 = .ok (.aload_n 0, 1) := by decide +kernel
theorem d_A_isFirstOfSpot_5 : decode b_A_isFirstOfSpot 5 = .ok (.getfield 15, 3) := by decide +kernel
theorem d_A_isFirstOfSpot_8 : decode b_A_isFirstOfSpot 8 = .ok (.aload_n 0, 1) := by decide +kernel
theorem d_A_isFirstOfSpot_9 : decode b_A_isFirstOfSpot 9 = .ok (.getfield 33, 3) := by decide +kernel
theorem d_A_isFirstOfSpot_12 : decode b_A_isFirstOfSpot 12 = .ok (.iload_n 1, 1) := by decide +kernel
theorem d_A_isFirstOfSpot_13 : decode b_A_isFirstOfSpot 13 = .ok (.iconst 1, 1) := by decide +kernel
theorem d_A_isFirstOfSpot_14 : decode b_A_isFirstOfSpot 14 = .ok (.isub, 1) := by decide +kernel
theorem d_A_isFirstOfSpot_15 : decode b_A_isFirstOfSpot 15 = .ok (.iaload, 1) := by decide +kernel
theorem d_A_isFirstOfSpot_16 : decode b_A_isFirstOfSpot 16 = .ok (.iaload, 1) := by decide +kernel
theorem d_A_isFirstOfSpot_17 : decode b_A_isFirstOfSpot 17 = .ok (.aload_n 0, 1) := by decide +kernel
theorem d_A_isFirstOfSpot_18 : decode b_A_isFirstOfSpot 18 = .ok (.getfield 15, 3) := by decide +kernel
theorem d_A_isFirstOfSpot_21 : decode b_A_isFirstOfSpot 21 = .ok (.aload_n 0, 1) := by decide +kernel
theorem d_A_isFirstOfSpot_22 : decode b_A_isFirstOfSpot 22 = .ok (.getfield 33, 3) := by decide +kernel
theorem d_A_isFirstOfSpot_25 : decode b_A_isFirstOfSpot 25 = .ok (.iload_n 1, 1) := by decide +kernel
theorem d_A_isFirstOfSpot_26 : decode b_A_isFirstOfSpot 26 = .ok (.iaload, 1) := by decide +kernel
theorem d_A_isFirstOfSpot_27 : decode b_A_isFirstOfSpot 27 = .ok (.iaload, 1) := by decide +kernel
theorem d_A_isFirstOfSpot_28 : decode b_A_isFirstOfSpot 28 = .ok (.if_icmp .eq 7, 3) := by decide +kernel
theorem d_A_isFirstOfSpot_31 : decode b_A_isFirstOfSpot 31 = .ok (.iconst 1, 1) := by decide +kernel
theorem d_A_isFirstOfSpot_32 : decode b_A_isFirstOfSpot 32 = .ok (.goto 4, 3) := by decide +kernel
theorem d_A_isFirstOfSpot_35 : decode b_A_isFirstOfSpot 35 = .ok (.iconst 0, 1) := by decide +kernel
theorem d_A_isFirstOfSpot_36 : decode b_A_isFirstOfSpot 36 = .ok (.ireturn, 1) := by decide +kernel
theorem d_A_isConflictFrom_0 : decode b_A_isConflictFrom 0 = .ok (.aload_n 0, 1) := by decide +kernel
theorem d_A_isConflictFrom_1 : decode b_A_isConflictFrom 1 = .ok (.getfield 15, 3) := by decide +kernel
theorem d_A_isConflictFrom_4 : decode b_A_isConflictFrom 4 = .ok (.aload_n 0, 1) := by decide +kernel
theorem d_A_isConflictFrom_5 : decode b_A_isConflictFrom 5 = .ok (.getfield 33, 3) := by decide +kernel
theorem d_A_isConflictFrom_8 : decode b_A_isConflictFrom 8 = .ok (.iload_n 1, 1) := by decide +kernel
theorem d_A_isConflictFrom_9 : decode b_A_isConflictFrom 9 = .ok (.iaload, 1) := by decide +kernel
theorem d_A_isConflictFrom_10 : decode b_A_isConflictFrom 10 = .ok (.iaload, 1) := by decide +kernel
theorem d_A_isConflictFrom_11 : decode b_A_isConflictFrom 11 = .ok (.istore_n 3, 1) := by decide +kernel
theorem d_A_isConflictFrom_12 : decode b_A_isConflictFrom 12 = .ok (.iconst (-1), 1) := by decide +kernel
theorem d_A_isConflictFrom_13 : decode b_A_isConflictFrom 13 = .ok (.istore 4, 2) := by decide +kernel
theorem d_A_isConflictFrom_15 : decode b_A_isConflictFrom 15 = .ok (.iload_n 1, 1) := by decide +kernel
theorem d_A_isConflictFrom_16 : decode b_A_isConflictFrom 16 = .ok (.istore 5, 2) := by decide +kernel
theorem d_A_isConflictFrom_18 : decode b_A_isConflictFrom 18 = .ok (.iload 5, 2) := by decide +kernel
theorem d_A_isConflictFrom_20 : decode b_A_isConflictFrom 20 = .ok (.aload_n 0, 1) := by decide +kernel
theorem d_A_isConflictFrom_21 : decode b_A_isConflictFrom 21 = .ok (.getfield 36, 3) := by decide +kernel
theorem d_A_isConflictFrom_24 : decode b_A_isConflictFrom 24 = .ok (.if_icmp .ge 77, 3) := by decide +kernel
theorem d_A_isConflictFrom_27 : decode b_A_isConflictFrom 27 = .ok (.aload_n 0, 1) := by decide +kernel
theorem d_A_isConflictFrom_28 : decode b_A_isConflictFrom 28 = .ok (.getfield 15, 3) := by decide +kernel
theorem d_A_isConflictFrom_31 : decode b_A_isConflictFrom 31 = .ok (.aload_n 0, 1) := by decide +kernel
theorem d_A_isConflictFrom_32 : decode b_A_isConflictFrom 32 = .ok (.getfield 33, 3) := by decide +kernel
theorem d_A_isConflictFrom_35 : decode b_A_isConflictFrom 35 = .ok (.iload 5, 2) := by decide +kernel
theorem d_A_isConflictFrom_37 : decode b_A_isConflictFrom 37 = .ok (.iaload, 1) := by decide +kernel
theorem d_A_isConflictFrom_38 : decode b_A_isConflictFrom 38 = .ok (.iaload, 1) := by decide +kernel
theorem d_A_isConflictFrom_39 : decode b_A_isConflictFrom 39 = .ok (.iload_n 3, 1) := by decide +kernel
theorem d_A_isConflictFrom_40 : decode b_A_isConflictFrom 40 = .ok (.if_icmp .ne 61, 3) := by decide +kernel
theorem d_A_isConflictFrom_43 : decode b_A_isConflictFrom 43 = .ok (.aload_n 0, 1) := by decide +kernel
theorem d_A_isConflictFrom_44 : decode b_A_isConflictFrom 44 = .ok (.getfield 33, 3) := by decide +kernel
theorem d_A_isConflictFrom_47 : decode b_A_isConflictFrom 47 = .ok (.iload 5, 2) := by decide +kernel
theorem d_A_isConflictFrom_49 : decode b_A_isConflictFrom 49 = .ok (.iaload, 1) := by decide +kernel
theorem d_A_isConflictFrom_50 : decode b_A_isConflictFrom 50 = .ok (.istore 6, 2) := by decide +kernel
theorem d_A_isConflictFrom_52 : decode b_A_isConflictFrom 52 = .ok (.aload_n 0, 1) := by decide +kernel
theorem d_A_isConflictFrom_53 : decode b_A_isConflictFrom 53 = .ok (.aload_n 2, 1) := by decide +kernel
theorem d_A_isConflictFrom_54 : decode b_A_isConflictFrom 54 = .ok (.iload 6, 2) := by decide +kernel
theorem d_A_isConflictFrom_56 : decode b_A_isConflictFrom 56 = .ok (.invokevirtual 54, 3) := by decide +kernel
theorem d_A_isConflictFrom_59 : decode b_A_isConflictFrom 59 = .ok (.ifCond .eq 36, 3) := by decide +kernel
theorem d_A_isConflictFrom_62 : decode b_A_isConflictFrom 62 = .ok (.iload 4, 2) := by decide +kernel
theorem d_A_isConflictFrom_64 : decode b_A_isConflictFrom 64 = .ok (.iconst (-1), 1) := by decide +kernel
theorem d_A_isConflictFrom_65 : decode b_A_isConflictFrom 65 = .ok (.if_icmp .ne 10, 3) := by decide +kernel
theorem d_A_isConflictFrom_68 : decode b_A_isConflictFrom 68 = .ok (.iload 6, 2) := by decide +kernel
theorem d_A_isConflictFrom_70 : decode b_A_isConflictFrom 70 = .ok (.istore 4, 2) := by decide +kernel
theorem d_A_isConflictFrom_72 : decode b_A_isConflictFrom 72 = .ok (.goto 23, 3) := by decide +kernel
theorem d_A_isConflictFrom_75 : decode b_A_isConflictFrom 75 = .ok (.aload_n 0, 1) := by decide +kernel
theorem d_A_isConflictFrom_76 : decode b_A_isConflictFrom 76 = .ok (.getfield 18, 3) := by decide +kernel
theorem d_A_isConflictFrom_79 : decode b_A_isConflictFrom 79 = .ok (.iload 6, 2) := by decide +kernel
theorem d_A_isConflictFrom_81 : decode b_A_isConflictFrom 81 = .ok (.laload, 1) := by decide +kernel
theorem d_A_isConflictFrom_82 : decode b_A_isConflictFrom 82 = .ok (.aload_n 0, 1) := by decide +kernel
theorem d_A_isConflictFrom_83 : decode b_A_isConflictFrom 83 = .ok (.getfield 18, 3) := by decide +kernel
theorem d_A_isConflictFrom_86 : decode b_A_isConflictFrom 86 = .ok (.iload 4, 2) := by decide +kernel
theorem d_A_isConflictFrom_88 : decode b_A_isConflictFrom 88 = .ok (.laload, 1) := by decide +kernel
theorem d_A_isConflictFrom_89 : decode b_A_isConflictFrom 89 = .ok (.lcmp, 1) := by decide +kernel
theorem d_A_isConflictFrom_90 : decode b_A_isConflictFrom 90 = .ok (.ifCond .eq 5, 3) := by decide +kernel
theorem d_A_isConflictFrom_93 : decode b_A_isConflictFrom 93 = .ok (.iconst 1, 1) := by decide +kernel
theorem d_A_isConflictFrom_94 : decode b_A_isConflictFrom 94 = .ok (.ireturn, 1) := by decide +kernel
theorem d_A_isConflictFrom_95 : decode b_A_isConflictFrom 95 = .ok (.iinc 5 1, 3) := by decide +kernel
theorem d_A_isConflictFrom_98 : decode b_A_isConflictFrom 98 = .ok (.goto (-80), 3) := by decide +kernel
theorem d_A_isConflictFrom_101 : decode b_A_isConflictFrom 101 = .ok (.iconst 0, 1) := by decide +kernel
theorem d_A_isConflictFrom_102 : decode b_A_isConflictFrom 102 = .ok (.ireturn, 1) := by decide +kernel
