theorem d_M_correct_59 : decode b_M_correct 59 = .ok (.aload_n 0, 1) := by decide +kernel
theorem d_M_correct_60 : decode b_M_correct 60 = .ok (.getfield 23, 3) := by decide +kernel
theorem d_M_correct_63 : decode b_M_correct 63 = .ok (.iload 5, 2) := by decide +kernel
theorem d_M_correct_65 : decode b_M_correct 65 = .ok (.iaload, 1) := by decide +kernel
theorem d_M_correct_66 : decode b_M_correct 66 = .ok (.aload_n 0, 1) := by decide +kernel
theorem d_M_correct_67 : decode b_M_correct 67 = .ok (.getfield 26, 3) := by decide +kernel
theorem d_M_correct_70 : decode b_M_correct 70 = .ok (.iload 5, 2) := by decide +kernel
theorem d_M_correct_72 : decode b_M_correct 72 = .ok (.iaload, 1) := by decide +kernel
theorem d_M_correct_73 : decode b_M_correct 73 = .ok (.aload_n 0, 1) := by decide +kernel
theorem d_M_correct_74 : decode b_M_correct 74 = .ok (.getfield 29, 3) := by decide +kernel
theorem d_M_correct_77 : decode b_M_correct 77 = .ok (.iload 5, 2) := by decide +kernel
theorem d_M_correct_79 : decode b_M_correct 79 = .ok (.laload, 1) := by decide +kernel
theorem d_M_correct_80 : decode b_M_correct 80 = .ok (.lload_n 3, 1) := by decide +kernel
theorem d_M_correct_81 : decode b_M_correct 81 = .ok (.invokevirtual 68, 3) := by decide +kernel
theorem d_M_correct_84 : decode b_M_correct 84 = .ok (.istore 6, 2) := by decide +kernel
theorem d_M_correct_86 : decode b_M_correct 86 = .ok (.aload_n 0, 1) := by decide +kernel
theorem d_M_correct_87 : decode b_M_correct 87 = .ok (.getfield 42, 3) := by decide +kernel
theorem d_M_correct_90 : decode b_M_correct 90 = .ok (.iload 6, 2) := by decide +kernel
theorem d_M_correct_92 : decode b_M_correct 92 = .ok (.sipush 300, 3) := by decide +kernel
theorem d_M_correct_95 : decode b_M_correct 95 = .ok (.imul, 1) := by decide +kernel
theorem d_M_correct_96 : decode b_M_correct 96 = .ok (.iload 5, 2) := by decide +kernel
theorem d_M_correct_98 : decode b_M_correct 98 = .ok (.iadd, 1) := by decide +kernel
theorem d_M_correct_99 : decode b_M_correct 99 = .ok (.iconst 1, 1) := by decide +kernel
theorem d_M_correct_100 : decode b_M_correct 100 = .ok (.bastore, 1) := by decide +kernel
theorem d_M_correct_101 : decode b_M_correct 101 = .ok (.aload_n 0, 1) := by decide +kernel
theorem d_M_correct_102 : decode b_M_correct 102 = .ok (.getfield 20, 3) := by decide +kernel
theorem d_M_correct_105 : decode b_M_correct 105 = .ok (.iload 6, 2) := by decide +kernel
theorem d_M_correct_107 : decode b_M_correct 107 = .ok (.iaload, 1) := by decide +kernel
theorem d_M_correct_108 : decode b_M_correct 108 = .ok (.ireturn, 1) := by decide +kernel
theorem d_M_areOne_0 : decode b_M_areOne 0 = .ok (.aload_n 0, 1) := by decide +kernel
theorem d_M_areOne_1 : decode b_M_areOne 1 = .ok (.getfield 23, 3) := by decide +kernel
theorem d_M_areOne_4 : decode b_M_areOne 4 = .ok (.iload_n 1, 1) := by decide +kernel
theorem d_M_areOne_5 : decode b_M_areOne 5 = .ok (.iaload, 1) := by decide +kernel
theorem d_M_areOne_6 : decode b_M_areOne 6 = .ok (.aload_n 0, 1) := by decide +kernel
theorem d_M_areOne_7 : decode b_M_areOne 7 = .ok (.getfield 23, 3) := by decide +kernel
theorem d_M_areOne_10 : decode b_M_areOne 10 = .ok (.iload_n 2, 1) := by decide +kernel
theorem d_M_areOne_11 : decode b_M_areOne 11 = .ok (.iaload, 1) := by decide +kernel
theorem d_M_areOne_12 : decode b_M_areOne 12 = .ok (.if_icmp .ne 38, 3) := by decide +kernel
theorem d_M_areOne_15 : decode b_M_areOne 15 = .ok (.aload_n 0, 1) := by decide +kernel
theorem d_M_areOne_16 : decode b_M_areOne 16 = .ok (.getfield 26, 3) := by decide +kernel
theorem d_M_areOne_19 : decode b_M_areOne 19 = .ok (.iload_n 1, 1) := by decide +kernel
theorem d_M_areOne_20 : decode b_M_areOne 20 = .ok (.iaload, 1) := by decide +kernel
theorem d_M_areOne_21 : decode b_M_areOne 21 = .ok (.aload_n 0, 1) := by decide +kernel
theorem d_M_areOne_22 : decode b_M_areOne 22 = .ok (.getfield 26, 3) := by decide +kernel
theorem d_M_areOne_25 : decode b_M_areOne 25 = .ok (.iload_n 2, 1) := by decide +kernel
theorem d_M_areOne_26 : decode b_M_areOne 26 = .ok (.iaload, 1) := by decide +kernel
theorem d_M_areOne_27 : decode b_M_areOne 27 = .ok (.if_icmp .ne 23, 3) := by decide +kernel
theorem d_M_areOne_30 : decode b_M_areOne 30 = .ok (.aload_n 0, 1) := by decide +kernel
theorem d_M_areOne_31 : decode b_M_areOne 31 = .ok (.getfield 29, 3) := by decide +kernel
theorem d_M_areOne_34 : decode b_M_areOne 34 = .ok (.iload_n 1, 1) := by decide +kernel
theorem d_M_areOne_35 : decode b_M_areOne 35 = .ok (.laload, 1) := by decide +kernel
theorem d_M_areOne_36 : decode b_M_areOne 36 = .ok (.aload_n 0, 1) := by decide +kernel
theorem d_M_areOne_37 : decode b_M_areOne 37 = .ok (.getfield 29, 3) := by decide +kernel
theorem d_M_areOne_40 : decode b_M_areOne 40 = .ok (.iload_n 2, 1) := by decide +kernel
theorem d_M_areOne_41 : decode b_M_areOne 41 = .ok (.laload, 1) := by decide +kernel
theorem d_M_areOne_42 : decode b_M_areOne 42 = .ok (.lcmp, 1) := by decide +kernel
theorem d_M_areOne_43 : decode b_M_areOne 43 = .ok (.ifCond .ne 7, 3) := by decide +kernel
theorem d_M_areOne_46 : decode b_M_areOne 46 = .ok (.iconst 1, 1) := by decide +kernel
theorem d_M_areOne_47 : decode b_M_areOne 47 = .ok (.goto 4, 3) := by decide +kernel
theorem d_M_areOne_50 : decode b_M_areOne 50 = .ok (.iconst 0, 1) := by decide +kernel
theorem d_M_areOne_51 : decode b_M_areOne 51 = .ok (.ireturn, 1) := by decide +kernel
theorem d_M_isFirstOfConflict_0 : decode b_M_isFirstOfConflict 0 = .ok (.aload_n 0, 1) := by decide +kernel
theorem d_M_isFirstOfConflict_1 : decode b_M_isFirstOfConflict 1 = .ok (.getfield 52, 3) := by decide +kernel
theorem d_M_isFirstOfConflict_4 : decode b_M_isFirstOfConflict 4 = .ok (.iload_n 1, 1) := by decide +kernel
theorem d_M_isFirstOfConflict_5 : decode b_M_isFirstOfConflict 5 = .ok (.baload, 1) := by decide +kernel
theorem d_M_isFirstOfConflict_6 : decode b_M_isFirstOfConflict 6 = .ok (.ifCond .ne 5, 3) := by decide +kernel
theorem d_M_isFirstOfConflict_9 : decode b_M_isFirstOfConflict 9 = .ok (.iconst 0, 1) := by decide +kernel
theorem d_M_isFirstOfConflict_10 : decode b_M_isFirstOfConflict 10 = .ok (.ireturn, 1) := by decide +kernel
theorem d_M_isFirstOfConflict_11 : decode b_M_isFirstOfConflict 11 = .ok (.iconst 0, 1) := by decide +kernel
theorem d_M_isFirstOfConflict_12 : decode b_M_isFirstOfConflict 12 = .ok (.istore_n 2, 1) := by decide +kernel
theorem d_M_isFirstOfConflict_13 : decode b_M_isFirstOfConflict 13 = .ok (.iconst 0, 1) := by decide +kernel
theorem d_M_isFirstOfConflict_14 : decode b_M_isFirstOfConflict 14 = .ok (.istore_n 3, 1) := by decide +kernel
theorem d_M_isFirstOfConflict_15 : decode b_M_isFirstOfConflict 15 = .ok (.iload_n 3, 1) := by decide +kernel
theorem d_M_isFirstOfConflict_16 : decode b_M_isFirstOfConflict 16 = .ok (.aload_n 0, 1) := by decide +kernel
theorem d_M_isFirstOfConflict_17 : decode b_M_isFirstOfConflict 17 = .ok (.getfield 59, 3) := by decide +kernel
theorem d_M_isFirstOfConflict_20 : decode b_M_isFirstOfConflict 20 = .ok (.if_icmp .ge 60, 3) := by decide +kernel
theorem d_M_isFirstOfConflict_23 : decode b_M_isFirstOfConflict 23 = .ok (.aload_n 0, 1) := by decide +kernel
theorem d_M_isFirstOfConflict_24 : decode b_M_isFirstOfConflict 24 = .ok (.iload_n 1, 1) := by decide +kernel
theorem d_M_isFirstOfConflict_25 : decode b_M_isFirstOfConflict 25 = .ok (.iload_n 3, 1) := by decide +kernel
theorem d_M_isFirstOfConflict_26 : decode b_M_isFirstOfConflict 26 = .ok (.invokevirtual 84, 3) := by decide +kernel
theorem d_M_isFirstOfConflict_29 : decode b_M_isFirstOfConflict 29 = .ok (.ifCond .eq 45, 3) := by decide +kernel
theorem d_M_isFirstOfConflict_32 : decode b_M_isFirstOfConflict 32 = .ok (.aload_n 0, 1) := by decide +kernel
theorem d_M_isFirstOfConflict_33 : decode b_M_isFirstOfConflict 33 = .ok (.getfield 52, 3) := by decide +kernel
theorem d_M_isFirstOfConflict_36 : decode b_M_isFirstOfConflict 36 = .ok (.iload_n 3, 1) := by decide +kernel
theorem d_M_isFirstOfConflict_37 : decode b_M_isFirstOfConflict 37 = .ok (.baload, 1) := by decide +kernel
theorem d_M_isFirstOfConflict_38 : decode b_M_isFirstOfConflict 38 = .ok (.ifCond .eq 36, 3) := by decide +kernel
theorem d_M_isFirstOfConflict_41 : decode b_M_isFirstOfConflict 41 = .ok (.iload_n 3, 1) := by decide +kernel
theorem d_M_isFirstOfConflict_42 : decode b_M_isFirstOfConflict 42 = .ok (.iload_n 1, 1) := by decide +kernel
theorem d_M_isFirstOfConflict_43 : decode b_M_isFirstOfConflict 43 = .ok (.if_icmp .ge 5, 3) := by decide +kernel
theorem d_M_isFirstOfConflict_46 : decode b_M_isFirstOfConflict 46 = .ok (.iconst 0, 1) := by decide +kernel
theorem d_M_isFirstOfConflict_47 : decode b_M_isFirstOfConflict 47 = .ok (.ireturn, 1) := by decide +kernel
theorem d_M_isFirstOfConflict_48 : decode b_M_isFirstOfConflict 48 = .ok (.iload_n 2, 1) := by decide +kernel
theorem d_M_isFirstOfConflict_49 : decode b_M_isFirstOfConflict 49 = .ok (.ifCond .ne 19, 3) := by decide +kernel
theorem d_M_isFirstOfConflict_52 : decode b_M_isFirstOfConflict 52 = .ok (.aload_n 0, 1) := by decide +kernel
theorem d_M_isFirstOfConflict_53 : decode b_M_isFirstOfConflict 53 = .ok (.getfield 32, 3) := by decide +kernel
theorem d_M_isFirstOfConflict_56 : decode b_M_isFirstOfConflict 56 = .ok (.iload_n 3, 1) := by decide +kernel
theorem d_M_isFirstOfConflict_57 : decode b_M_isFirstOfConflict 57 = .ok (.laload, 1) := by decide +kernel
theorem d_M_isFirstOfConflict_58 : decode b_M_isFirstOfConflict 58 = .ok (.aload_n 0, 1) := by decide +kernel
theorem d_M_isFirstOfConflict_59 : decode b_M_isFirstOfConflict 59 = .ok (.getfield 32, 3) := by decide +kernel
theorem d_M_isFirstOfConflict_62 : decode b_M_isFirstOfConflict 62 = .ok (.iload_n 1, 1) := by decide +kernel
theorem d_M_isFirstOfConflict_63 : decode b_M_isFirstOfConflict 63 = .ok (.laload, 1) := by decide +kernel
theorem d_M_isFirstOfConflict_64 : decode b_M_isFirstOfConflict 64 = .ok (.lcmp, 1) := by decide +kernel
theorem d_M_isFirstOfConflict_65 : decode b_M_isFirstOfConflict 65 = .ok (.ifCond .eq 7, 3) := by decide +kernel
theorem d_M_isFirstOfConflict_68 : decode b_M_isFirstOfConflict 68 = .ok (.iconst 1, 1) := by decide +kernel
theorem d_M_isFirstOfConflict_69 : decode b_M_isFirstOfConflict 69 = .ok (.goto 4, 3) := by decide +kernel
theorem d_M_isFirstOfConflict_72 : decode b_M_isFirstOfConflict 72 = .ok (.iconst 0, 1) := by decide +kernel
theorem d_M_isFirstOfConflict_73 : decode b_M_isFirstOfConflict 73 = .ok (.istore_n 2, 1) := by decide +kernel
theorem d_M_isFirstOfConflict_74 : decode b_M_isFirstOfConflict 74 = .ok (.iinc 3 1, 3) := by decide +kernel
theorem d_M_isFirstOfConflict_77 : decode b_M_isFirstOfConflict 77 = .ok (.goto (-62), 3) := by decide +kernel
theorem d_M_isFirstOfConflict_80 : decode b_M_isFirstOfConflict 80 = .ok (.iload_n 2, 1) := by decide +kernel
theorem d_M_isFirstOfConflict_81 : decode b_M_isFirstOfConflict 81 = .ok (.ireturn, 1) := by decide +kernel
theorem d_M_conflicts_0 : decode b_M_conflicts 0 = .ok (.aload_n 0, 1) := by decide +kernel
theorem d_M_conflicts_1 : decode b_M_conflicts 1 = .ok (.iload_n 1, 1) := by decide +kernel
theorem d_M_conflicts_2 : decode b_M_conflicts 2 = .ok (.invokevirtual 80, 3) := by decide +kernel
theorem d_M_conflicts_5 : decode b_M_conflicts 5 = .ok (.iconst 0, 1) := by decide +kernel
theorem d_M_conflicts_6 : decode b_M_conflicts 6 = .ok (.istore_n 2, 1) := by decide +kernel
theorem d_M_conflicts_7 : decode b_M_conflicts 7 = .ok (.iconst 0, 1) := by decide +kernel
theorem d_M_conflicts_8 : decode b_M_conflicts 8 = .ok (.istore_n 3, 1) := by decide +kernel
theorem d_M_conflicts_9 : decode b_M_conflicts 9 = .ok (.iload_n 3, 1) := by decide +kernel
theorem d_M_conflicts_10 : decode b_M_conflicts 10 = .ok (.aload_n 0, 1) := by decide +kernel
theorem d_M_conflicts_11 : decode b_M_conflicts 11 = .ok (.getfield 59, 3) := by decide +kernel
theorem d_M_conflicts_14 : decode b_M_conflicts 14 = .ok (.if_icmp .ge 25, 3) := by decide +kernel
theorem d_M_conflicts_17 : decode b_M_conflicts 17 = .ok (.iload_n 2, 1) := by decide +kernel
theorem d_M_conflicts_18 : decode b_M_conflicts 18 = .ok (.aload_n 0, 1) := by decide +kernel
theorem d_M_conflicts_19 : decode b_M_conflicts 19 = .ok (.iload_n 3, 1) := by decide +kernel
theorem d_M_conflicts_20 : decode b_M_conflicts 20 = .ok (.invokevirtual 88, 3) := by decide +kernel
theorem d_M_conflicts_23 : decode b_M_conflicts 23 = .ok (.ifCond .eq 7, 3) := by decide +kernel
theorem d_M_conflicts_26 : decode b_M_conflicts 26 = .ok (.iconst 1, 1) := by decide +kernel
theorem d_M_conflicts_27 : decode b_M_conflicts 27 = .ok (.goto 4, 3) := by decide +kernel
theorem d_M_conflicts_30 : decode b_M_conflicts 30 = .ok (.iconst 0, 1) := by decide +kernel
theorem d_M_conflicts_31 : decode b_M_conflicts 31 = .ok (.iadd, 1) := by decide +kernel
theorem d_M_conflicts_32 : decode b_M_conflicts 32 = .ok (.istore_n 2, 1) := by decide +kernel
theorem d_M_conflicts_33 : decode b_M_conflicts 33 = .ok (.iinc 3 1, 3) := by decide +kernel
theorem d_M_conflicts_36 : decode b_M_conflicts 36 = .ok (.goto (-27), 3) := by decide +kernel
theorem d_M_conflicts_39 : decode b_M_conflicts 39 = .ok (.iload_n 2, 1) := by decide +kernel
theorem d_M_conflicts_40 : decode b_M_conflicts 40 = .ok (.ireturn, 1) := by decide +kernel
theorem d_M_isBefore_0 : decode b_M_isBefore 0 = .ok (.aload_n 0, 1) := by decide +kernel
theorem d_M_isBefore_1 : decode b_M_isBefore 1 = .ok (.getfield 23, 3) := by decide +kernel
theorem d_M_isBefore_4 : decode b_M_isBefore 4 = .ok (.iload_n 1, 1) := by decide +kernel
theorem d_M_isBefore_5 : decode b_M_isBefore 5 = .ok (.iaload, 1) := by decide +kernel
theorem d_M_isBefore_6 : decode b_M_isBefore 6 = .ok (.aload_n 0, 1) := by decide +kernel
theorem d_M_isBefore_7 : decode b_M_isBefore 7 = .ok (.getfield 23, 3) := by decide +kernel
theorem d_M_isBefore_10 : decode b_M_isBefore 10 = .ok (.iload_n 2, 1) := by decide +kernel
theorem d_M_isBefore_11 : decode b_M_isBefore 11 = .ok (.iaload, 1) := by decide +kernel
theorem d_M_isBefore_12 : decode b_M_isBefore 12 = .ok (.if_icmp .eq 26, 3) := by decide +kernel
theorem d_M_isBefore_15 : decode b_M_isBefore 15 = .ok (.aload_n 0, 1) := by decide +kernel
theorem d_M_isBefore_16 : decode b_M_isBefore 16 = .ok (.getfield 23, 3) := by decide +kernel
theorem d_M_isBefore_19 : decode b_M_isBefore 19 = .ok (.iload_n 1, 1) := by decide +kernel
theorem d_M_isBefore_20 : decode b_M_isBefore 20 = .ok (.iaload, 1) := by decide +kernel
theorem d_M_isBefore_21 : decode b_M_isBefore 21 = .ok (.aload_n 0, 1) := by decide +kernel
theorem d_M_isBefore_22 : decode b_M_isBefore 22 = .ok (.getfield 23, 3) := by decide +kernel
theorem d_M_isBefore_25 : decode b_M_isBefore 25 = .ok (.iload_n 2, 1) := by decide +kernel
theorem d_M_isBefore_26 : decode b_M_isBefore 26 = .ok (.iaload, 1) := by decide +kernel
theorem d_M_isBefore_27 : decode b_M_isBefore 27 = .ok (.if_icmp .ge 7, 3) := by decide +kernel
theorem d_M_isBefore_30 : decode b_M_isBefore 30 = .ok (.iconst 1, 1) := by decide +kernel
theorem d_M_isBefore_31 : decode b_M_isBefore 31 = .ok (.goto 66, 3) := by decide +kernel
theorem d_M_isBefore_34 : decode b_M_isBefore 34 = .ok (.iconst 0, 1) := by decide +kernel
theorem d_M_isBefore_35 : decode b_M_isBefore 35 = .ok (.goto 62, 3) := by decide +kernel
theorem d_M_isBefore_38 : decode b_M_isBefore 38 = .ok (.aload_n 0, 1) := by decide +kernel
theorem d_M_isBefore_39 : decode b_M_isBefore 39 = .ok (.getfield 26, 3) := by decide +kernel
theorem d_M_isBefore_42 : decode b_M_isBefore 42 = .ok (.iload_n 1, 1) := by decide +kernel
theorem d_M_isBefore_43 : decode b_M_isBefore 43 = .ok (.iaload, 1) := by decide +kernel
theorem d_M_isBefore_44 : decode b_M_isBefore 44 = .ok (.aload_n 0, 1) := by decide +kernel
theorem d_M_isBefore_45 : decode b_M_isBefore 45 = .ok (.getfield 26, 3) := by decide +kernel
theorem d_M_isBefore_48 : decode b_M_isBefore 48 = .ok (.iload_n 2, 1) := by decide +kernel
theorem d_M_isBefore_49 : decode b_M_isBefore 49 = .ok (.iaload, 1) := by decide +kernel
theorem d_M_isBefore_50 : decode b_M_isBefore 50 = .ok (.if_icmp .eq 26, 3) := by decide +kernel
theorem d_M_isBefore_53 : decode b_M_isBefore 53 = .ok (.aload_n 0, 1) := by decide +kernel
theorem d_M_isBefore_54 : decode b_M_isBefore 54 = .ok (.getfield 26, 3) := by decide +kernel
theorem d_M_isBefore_57 : decode b_M_isBefore 57 = .ok (.iload_n 1, 1) := by decide +kernel
theorem d_M_isBefore_58 : decode b_M_isBefore 58 = .ok (.iaload, 1) := by decide +kernel
theorem d_M_isBefore_59 : decode b_M_isBefore 59 = .ok (.aload_n 0, 1) := by decide +kernel
theorem d_M_isBefore_60 : decode b_M_isBefore 60 = .ok (.getfield 26, 3) := by decide +kernel
theorem d_M_isBefore_63 : decode b_M_isBefore 63 = .ok (.iload_n 2, 1) := by decide +kernel
theorem d_M_isBefore_64 : decode b_M_isBefore 64 = .ok (.iaload, 1) := by decide +kernel
theorem d_M_isBefore_65 : decode b_M_isBefore 65 = .ok (.if_icmp .ge 7, 3) := by decide +kernel
theorem d_M_isBefore_68 : decode b_M_isBefore 68 = .ok (.iconst 1, 1) := by decide +kernel
theorem d_M_isBefore_69 : decode b_M_isBefore 69 = .ok (.goto 28, 3) := by decide +kernel
theorem d_M_isBefore_72 : decode b_M_isBefore 72 = .ok (.iconst 0, 1) := by decide +kernel
theorem d_M_isBefore_73 : decode b_M_isBefore 73 = .ok (.goto 24, 3) := by decide +kernel
theorem d_M_isBefore_76 : decode b_M_isBefore 76 = .ok (.aload_n 0, 1) := by decide +kernel
theorem d_M_isBefore_77 : decode b_M_isBefore 77 = .ok (.getfield 29, 3) := by decide +kernel
theorem d_M_isBefore_80 : decode b_M_isBefore 80 = .ok (.iload_n 1, 1) := by decide +kernel
theorem d_M_isBefore_81 : decode b_M_isBefore 81 = .ok (.laload, 1) := by decide +kernel
theorem d_M_isBefore_82 : decode b_M_isBefore 82 = .ok (.aload_n 0, 1) := by decide +kernel
theorem d_M_isBefore_83 : decode b_M_isBefore 83 = .ok (.getfield 29, 3) := by decide +kernel
theorem d_M_isBefore_86 : decode b_M_isBefore 86 = .ok (.iload_n 2, 1) := by decide +kernel
theorem d_M_isBefore_87 : decode b_M_isBefore 87 = .ok (.laload, 1) := by decide +kernel
theorem d_M_isBefore_88 : decode b_M_isBefore 88 = .ok (.lcmp, 1) := by decide +kernel
theorem d_M_isBefore_89 : decode b_M_isBefore 89 = .ok (.ifCond .ge 7, 3) := by decide +kernel
theorem d_M_isBefore_92 : decode b_M_isBefore 92 = .ok (.iconst 1, 1) := by decide +kernel
theorem d_M_isBefore_93 : decode b_M_isBefore 93 = .ok (.goto 4, 3) := by decide +kernel
theorem d_M_isBefore_96 : decode b_M_isBefore 96 = .ok (.iconst 0, 1) := by decide +kernel
theorem d_M_isBefore_97 : decode b_M_isBefore 97 = .ok (.ireturn, 1) := by decide +kernel
theorem d_M_join_0 : decode b_M_join 0 = .ok (.aload_n 0, 1) := by decide +kernel
theorem d_M_join_1 : decode b_M_join 1 = .ok (.iload_n 1, 1) := by decide +kernel
theorem d_M_join_2 : decode b_M_join 2 = .ok (.invokevirtual 62, 3) := by decide +kernel
theorem d_M_join_5 : decode b_M_join 5 = .ok (.ifCond .eq 16, 3) := by decide +kernel
theorem d_M_join_8 : decode b_M_join 8 = .ok (.aload_n 0, 1) := by decide +kernel
theorem d_M_join_9 : decode b_M_join 9 = .ok (.iload_n 2, 1) := by decide +kernel
theorem d_M_join_10 : decode b_M_join 10 = .ok (.invokevirtual 62, 3) := by decide +kernel
theorem d_M_join_13 : decode b_M_join 13 = .ok (.ifCond .eq 8, 3) := by decide +kernel
theorem d_M_join_16 : decode b_M_join 16 = .ok (.iload_n 1, 1) := by decide +kernel
theorem d_M_join_17 : decode b_M_join 17 = .ok (.iload_n 2, 1) := by decide +kernel
theorem d_M_join_18 : decode b_M_join 18 = .ok (.if_icmp .ne 5, 3) := by decide +kernel
theorem d_M_join_21 : decode b_M_join 21 = .ok (.iconst (-1), 1) := by decide +kernel
theorem d_M_join_22 : decode b_M_join 22 = .ok (.ireturn, 1) := by decide +kernel
theorem d_M_join_23 : decode b_M_join 23 = .ok (.iconst 0, 1) := by decide +kernel
theorem d_M_join_24 : decode b_M_join 24 = .ok (.istore_n 3, 1) := by decide +kernel
theorem d_M_join_25 : decode b_M_join 25 = .ok (.iload_n 3, 1) := by decide +kernel
theorem d_M_join_26 : decode b_M_join 26 = .ok (.aload_n 0, 1) := by decide +kernel
theorem d_M_join_27 : decode b_M_join 27 = .ok (.getfield 59, 3) := by decide +kernel
theorem d_M_join_30 : decode b_M_join 30 = .ok (.if_icmp .ge 36, 3) := by decide +kernel
theorem d_M_join_33 : decode b_M_join 33 = .ok (.aload_n 0, 1) := by decide +kernel
theorem d_M_join_34 : decode b_M_join 34 = .ok (.getfield 46, 3) := by decide +kernel
theorem d_M_join_37 : decode b_M_join 37 = .ok (.iload_n 1, 1) := by decide +kernel
theorem d_M_join_38 : decode b_M_join 38 = .ok (.sipush 300, 3) := by decide +kernel
theorem d_M_join_41 : decode b_M_join 41 = .ok (.imul, 1) := by decide +kernel
theorem d_M_join_42 : decode b_M_join 42 = .ok (.iload_n 3, 1) := by decide +kernel
theorem d_M_join_43 : decode b_M_join 43 = .ok (.iadd, 1) := by decide +kernel
theorem d_M_join_44 : decode b_M_join 44 = .ok (.dup2, 1) := by decide +kernel
theorem d_M_join_45 : decode b_M_join 45 = .ok (.baload, 1) := by decide +kernel
theorem d_M_join_46 : decode b_M_join 46 = .ok (.aload_n 0, 1) := by decide +kernel
theorem d_M_join_47 : decode b_M_join 47 = .ok (.getfield 46, 3) := by decide +kernel
theorem d_M_join_50 : decode b_M_join 50 = .ok (.iload_n 2, 1) := by decide +kernel
theorem d_M_join_51 : decode b_M_join 51 = .ok (.sipush 300, 3) := by decide +kernel
theorem d_M_join_54 : decode b_M_join 54 = .ok (.imul, 1) := by decide +kernel
theorem d_M_join_55 : decode b_M_join 55 = .ok (.iload_n 3, 1) := by decide +kernel
theorem d_M_join_56 : decode b_M_join 56 = .ok (.iadd, 1) := by decide +kernel
theorem d_M_join_57 : decode b_M_join 57 = .ok (.baload, 1) := by decide +kernel
theorem d_M_join_58 : decode b_M_join 58 = .ok (.ior, 1) := by decide +kernel
theorem d_M_join_59 : decode b_M_join 59 = .ok (.bastore, 1) := by decide +kernel
theorem d_M_join_60 : decode b_M_join 60 = .ok (.iinc 3 1, 3) := by decide +kernel
theorem d_M_join_63 : decode b_M_join 63 = .ok (.goto (-38), 3) := by decide +kernel
theorem d_M_join_66 : decode b_M_join 66 = .ok (.aload_n 0, 1) := by decide +kernel
theorem d_M_join_67 : decode b_M_join 67 = .ok (.getfield 9, 3) := by decide +kernel
theorem d_M_join_70 : decode b_M_join 70 = .ok (.iload_n 1, 1) := by decide +kernel
theorem d_M_join_71 : decode b_M_join 71 = .ok (.aload_n 0, 1) := by decide +kernel
theorem d_M_join_72 : decode b_M_join 72 = .ok (.getfield 9, 3) := by decide +kernel
theorem d_M_join_75 : decode b_M_join 75 = .ok (.iload_n 2, 1) := by decide +kernel
theorem d_M_join_76 : decode b_M_join 76 = .ok (.laload, 1) := by decide +kernel
theorem d_M_join_77 : decode b_M_join 77 = .ok (.aload_n 0, 1) := by decide +kernel
theorem d_M_join_78 : decode b_M_join 78 = .ok (.getfield 9, 3) := by decide +kernel
theorem d_M_join_81 : decode b_M_join 81 = .ok (.iload_n 1, 1) := by decide +kernel
theorem d_M_join_82 : decode b_M_join 82 = .ok (.laload, 1) := by decide +kernel
theorem d_M_join_83 : decode b_M_join 83 = .ok (.lcmp, 1) := by decide +kernel
theorem d_M_join_84 : decode b_M_join 84 = .ok (.ifCond .le 12, 3) := by decide +kernel
theorem d_M_join_87 : decode b_M_join 87 = .ok (.aload_n 0, 1) := by decide +kernel
theorem d_M_join_88 : decode b_M_join 88 = .ok (.getfield 9, 3) := by decide +kernel
theorem d_M_join_91 : decode b_M_join 91 = .ok (.iload_n 2, 1) := by decide +kernel
theorem d_M_join_92 : decode b_M_join 92 = .ok (.laload, 1) := by decide +kernel
theorem d_M_join_93 : decode b_M_join 93 = .ok (.goto 9, 3) := by decide +kernel
theorem d_M_join_96 : decode b_M_join 96 = .ok (.aload_n 0, 1) := by decide +kernel
theorem d_M_join_97 : decode b_M_join 97 = .ok (.getfield 9, 3) := by decide +kernel
theorem d_M_join_100 : decode b_M_join 100 = .ok (.iload_n 1, 1) := by decide +kernel
theorem d_M_join_101 : decode b_M_join 101 = .ok (.laload, 1) := by decide +kernel
theorem d_M_join_102 : decode b_M_join 102 = .ok (.lastore, 1) := by decide +kernel
theorem d_M_join_103 : decode b_M_join 103 = .ok (.aload_n 0, 1) := by decide +kernel
theorem d_M_join_104 : decode b_M_join 104 = .ok (.iload_n 1, 1) := by decide +kernel
theorem d_M_join_105 : decode b_M_join 105 = .ok (.invokevirtual 91, 3) := by decide +kernel
theorem d_M_join_108 : decode b_M_join 108 = .ok (.ireturn, 1) := by decide +kernel
theorem d_M_standing_0 : decode b_M_standing 0 = .ok (.iconst (-1), 1) := by decide +kernel
theorem d_M_standing_1 : decode b_M_standing 1 = .ok (.istore_n 3, 1) := by decide +kernel
theorem d_M_standing_2 : decode b_M_standing 2 = .ok (.iconst 0, 1) := by decide +kernel
theorem d_M_standing_3 : decode b_M_standing 3 = .ok (.istore 4, 2) := by decide +kernel
theorem d_M_standing_5 : decode b_M_standing 5 = .ok (.iconst 0, 1) := by decide +kernel
theorem d_M_standing_6 : decode b_M_standing 6 = .ok (.istore 5, 2) := by decide +kernel
theorem d_M_standing_8 : decode b_M_standing 8 = .ok (.iload 5, 2) := by decide +kernel
theorem d_M_standing_10 : decode b_M_standing 10 = .ok (.aload_n 0, 1) := by decide +kernel
theorem d_M_standing_11 : decode b_M_standing 11 = .ok (.getfield 59, 3) := by decide +kernel
theorem d_M_standing_14 : decode b_M_standing 14 = .ok (.if_icmp .ge 113, 3) := by decide +kernel
theorem d_M_standing_17 : decode b_M_standing 17 = .ok (.aload_n 0, 1) := by decide +kernel
theorem d_M_standing_18 : decode b_M_standing 18 = .ok (.iload_n 1, 1) := by decide +kernel
theorem d_M_standing_19 : decode b_M_standing 19 = .ok (.iload 5, 2) := by decide +kernel
theorem d_M_standing_21 : decode b_M_standing 21 = .ok (.invokevirtual 84, 3) := by decide +kernel
theorem d_M_standing_24 : decode b_M_standing 24 = .ok (.ifCond .eq 97, 3) := by decide +kernel
theorem d_M_standing_27 : decode b_M_standing 27 = .ok (.aload_n 0, 1) := by decide +kernel
theorem d_M_standing_28 : decode b_M_standing 28 = .ok (.getfield 52, 3) := by decide +kernel
theorem d_M_standing_31 : decode b_M_standing 31 = .ok (.iload 5, 2) := by decide +kernel
theorem d_M_standing_33 : decode b_M_standing 33 = .ok (.baload, 1) := by decide +kernel
theorem d_M_standing_34 : decode b_M_standing 34 = .ok (.ifCond .eq 87, 3) := by decide +kernel
theorem d_M_standing_37 : decode b_M_standing 37 = .ok (.iconst 0, 1) := by decide +kernel
theorem d_M_standing_38 : decode b_M_standing 38 = .ok (.istore 6, 2) := by decide +kernel
theorem d_M_standing_40 : decode b_M_standing 40 = .ok (.iconst 0, 1) := by decide +kernel
theorem d_M_standing_41 : decode b_M_standing 41 = .ok (.istore 7, 2) := by decide +kernel
theorem d_M_standing_43 : decode b_M_standing 43 = .ok (.iload 7, 2) := by decide +kernel
theorem d_M_standing_45 : decode b_M_standing 45 = .ok (.aload_n 0, 1) := by decide +kernel
theorem d_M_standing_46 : decode b_M_standing 46 = .ok (.getfield 59, 3) := by decide +kernel
theorem d_M_standing_49 : decode b_M_standing 49 = .ok (.if_icmp .ge 56, 3) := by decide +kernel
theorem d_M_standing_52 : decode b_M_standing 52 = .ok (.iload 6, 2) := by decide +kernel
theorem d_M_standing_54 : decode b_M_standing 54 = .ok (.aload_n 0, 1) := by decide +kernel
theorem d_M_standing_55 : decode b_M_standing 55 = .ok (.iload_n 1, 1) := by decide +kernel
theorem d_M_standing_56 : decode b_M_standing 56 = .ok (.iload 7, 2) := by decide +kernel
theorem d_M_standing_58 : decode b_M_standing 58 = .ok (.invokevirtual 84, 3) := by decide +kernel
theorem d_M_standing_61 : decode b_M_standing 61 = .ok (.ifCond .eq 34, 3) := by decide +kernel
theorem d_M_standing_64 : decode b_M_standing 64 = .ok (.aload_n 0, 1) := by decide +kernel
theorem d_M_standing_65 : decode b_M_standing 65 = .ok (.getfield 20, 3) := by decide +kernel
theorem d_M_standing_68 : decode b_M_standing 68 = .ok (.iload 7, 2) := by decide +kernel
theorem d_M_standing_70 : decode b_M_standing 70 = .ok (.iaload, 1) := by decide +kernel
theorem d_M_standing_71 : decode b_M_standing 71 = .ok (.aload_n 0, 1) := by decide +kernel
theorem d_M_standing_72 : decode b_M_standing 72 = .ok (.getfield 20, 3) := by decide +kernel
theorem d_M_standing_75 : decode b_M_standing 75 = .ok (.iload 5, 2) := by decide +kernel
theorem d_M_standing_77 : decode b_M_standing 77 = .ok (.iaload, 1) := by decide +kernel
theorem d_M_standing_78 : decode b_M_standing 78 = .ok (.if_icmp .ge 17, 3) := by decide +kernel
theorem d_M_standing_81 : decode b_M_standing 81 = .ok (.aload_n 0, 1) := by decide +kernel
theorem d_M_standing_82 : decode b_M_standing 82 = .ok (.getfield 52, 3) := by decide +kernel
theorem d_M_standing_85 : decode b_M_standing 85 = .ok (.iload 7, 2) := by decide +kernel
theorem d_M_standing_87 : decode b_M_standing 87 = .ok (.baload, 1) := by decide +kernel
theorem d_M_standing_88 : decode b_M_standing 88 = .ok (.ifCond .eq 7, 3) := by decide +kernel
theorem d_M_standing_91 : decode b_M_standing 91 = .ok (.iconst 1, 1) := by decide +kernel
theorem d_M_standing_92 : decode b_M_standing 92 = .ok (.goto 4, 3) := by decide +kernel
theorem d_M_standing_95 : decode b_M_standing 95 = .ok (.iconst 0, 1) := by decide +kernel
theorem d_M_standing_96 : decode b_M_standing 96 = .ok (.iadd, 1) := by decide +kernel
theorem d_M_standing_97 : decode b_M_standing 97 = .ok (.istore 6, 2) := by decide +kernel
theorem d_M_standing_99 : decode b_M_standing 99 = .ok (.iinc 7 1, 3) := by decide +kernel
theorem d_M_standing_102 : decode b_M_standing 102 = .ok (.goto (-59), 3) := by decide +kernel
theorem d_M_standing_105 : decode b_M_standing 105 = .ok (.iload 6, 2) := by decide +kernel
theorem d_M_standing_107 : decode b_M_standing 107 = .ok (.iload_n 2, 1) := by decide +kernel
theorem d_M_standing_108 : decode b_M_standing 108 = .ok (.if_icmp .ne 8, 3) := by decide +kernel
theorem d_M_standing_111 : decode b_M_standing 111 = .ok (.iload 5, 2) := by decide +kernel
theorem d_M_standing_113 : decode b_M_standing 113 = .ok (.goto 4, 3) := by decide +kernel
theorem d_M_standing_116 : decode b_M_standing 116 = .ok (.iload_n 3, 1) := by decide +kernel
theorem d_M_standing_117 : decode b_M_standing 117 = .ok (.istore_n 3, 1) := by decide +kernel
theorem d_M_standing_118 : decode b_M_standing 118 = .ok (.iinc 4 1, 3) := by decide +kernel
theorem d_M_standing_121 : decode b_M_standing 121 = .ok (.iinc 5 1, 3) := by decide +kernel
theorem d_M_standing_124 : decode b_M_standing 124 = .ok (.goto (-116), 3) := by decide +kernel
theorem d_M_standing_127 : decode b_M_standing 127 = .ok (.iload_n 2, 1) := by decide +kernel
theorem d_M_standing_128 : decode b_M_standing 128 = .ok (.iconst (-1), 1) := by decide +kernel
theorem d_M_standing_129 : decode b_M_standing 129 = .ok (.if_icmp .ne 8, 3) := by decide +kernel
theorem d_M_standing_132 : decode b_M_standing 132 = .ok (.iload 4, 2) := by decide +kernel
theorem d_M_standing_134 : decode b_M_standing 134 = .ok (.goto 4, 3) := by decide +kernel
theorem d_M_standing_137 : decode b_M_standing 137 = .ok (.iload_n 3, 1) := by decide +kernel
theorem d_M_standing_138 : decode b_M_standing 138 = .ok (.ireturn, 1) := by decide +kernel
theorem d_M_conflict_0 : decode b_M_conflict 0 = .ok (.aload_n 0, 1) := by decide +kernel
theorem d_M_conflict_1 : decode b_M_conflict 1 = .ok (.iload_n 1, 1) := by decide +kernel
theorem d_M_conflict_2 : decode b_M_conflict 2 = .ok (.invokevirtual 62, 3) := by decide +kernel
theorem d_M_conflict_5 : decode b_M_conflict 5 = .ok (.ifCond .eq 11, 3) := by decide +kernel
theorem d_M_conflict_8 : decode b_M_conflict 8 = .ok (.iload_n 2, 1) := by decide +kernel
theorem d_M_conflict_9 : decode b_M_conflict 9 = .ok (.ifCond .lt 7, 3) := by decide +kernel
theorem d_M_conflict_12 : decode b_M_conflict 12 = .ok (.iload_n 3, 1) := by decide +kernel
theorem d_M_conflict_13 : decode b_M_conflict 13 = .ok (.ifCond .ge 5, 3) := by decide +kernel
theorem d_M_conflict_16 : decode b_M_conflict 16 = .ok (.iconst (-1), 1) := by decide +kernel
theorem d_M_conflict_17 : decode b_M_conflict 17 = .ok (.ireturn, 1) := by decide +kernel
theorem d_M_conflict_18 : decode b_M_conflict 18 = .ok (.aload_n 0, 1) := by decide +kernel
theorem d_M_conflict_19 : decode b_M_conflict 19 = .ok (.iload_n 1, 1) := by decide +kernel
theorem d_M_conflict_20 : decode b_M_conflict 20 = .ok (.invokevirtual 80, 3) := by decide +kernel
theorem d_M_conflict_23 : decode b_M_conflict 23 = .ok (.iconst 0, 1) := by decide +kernel
theorem d_M_conflict_24 : decode b_M_conflict 24 = .ok (.istore 4, 2) := by decide +kernel
theorem d_M_conflict_26 : decode b_M_conflict 26 = .ok (.iload 4, 2) := by decide +kernel
theorem d_M_conflict_28 : decode b_M_conflict 28 = .ok (.aload_n 0, 1) := by decide +kernel
theorem d_M_conflict_29 : decode b_M_conflict 29 = .ok (.getfield 59, 3) := by decide +kernel
theorem d_M_conflict_32 : decode b_M_conflict 32 = .ok (.if_icmp .ge 173, 3) := by decide +kernel
theorem d_M_conflict_35 : decode b_M_conflict 35 = .ok (.aload_n 0, 1) := by decide +kernel
theorem d_M_conflict_36 : decode b_M_conflict 36 = .ok (.iload 4, 2) := by decide +kernel
theorem d_M_conflict_38 : decode b_M_conflict 38 = .ok (.invokevirtual 88, 3) := by decide +kernel
theorem d_M_conflict_41 : decode b_M_conflict 41 = .ok (.ifCond .eq 158, 3) := by decide +kernel
theorem d_M_conflict_44 : decode b_M_conflict 44 = .ok (.iconst 0, 1) := by decide +kernel
theorem d_M_conflict_45 : decode b_M_conflict 45 = .ok (.istore 5, 2) := by decide +kernel
theorem d_M_conflict_47 : decode b_M_conflict 47 = .ok (.iconst 0, 1) := by decide +kernel
theorem d_M_conflict_48 : decode b_M_conflict 48 = .ok (.istore 6, 2) := by decide +kernel
theorem d_M_conflict_50 : decode b_M_conflict 50 = .ok (.iload 6, 2) := by decide +kernel
theorem d_M_conflict_52 : decode b_M_conflict 52 = .ok (.aload_n 0, 1) := by decide +kernel
theorem d_M_conflict_53 : decode b_M_conflict 53 = .ok (.getfield 59, 3) := by decide +kernel
theorem d_M_conflict_56 : decode b_M_conflict 56 = .ok (.if_icmp .ge 39, 3) := by decide +kernel
theorem d_M_conflict_59 : decode b_M_conflict 59 = .ok (.iload 5, 2) := by decide +kernel
theorem d_M_conflict_61 : decode b_M_conflict 61 = .ok (.aload_n 0, 1) := by decide +kernel
theorem d_M_conflict_62 : decode b_M_conflict 62 = .ok (.iload 6, 2) := by decide +kernel
theorem d_M_conflict_64 : decode b_M_conflict 64 = .ok (.iload 4, 2) := by decide +kernel
theorem d_M_conflict_66 : decode b_M_conflict 66 = .ok (.invokevirtual 94, 3) := by decide +kernel
theorem d_M_conflict_69 : decode b_M_conflict 69 = .ok (.ifCond .eq 16, 3) := by decide +kernel
theorem d_M_conflict_72 : decode b_M_conflict 72 = .ok (.aload_n 0, 1) := by decide +kernel
theorem d_M_conflict_73 : decode b_M_conflict 73 = .ok (.iload 6, 2) := by decide +kernel
theorem d_M_conflict_75 : decode b_M_conflict 75 = .ok (.invokevirtual 88, 3) := by decide +kernel
theorem d_M_conflict_78 : decode b_M_conflict 78 = .ok (.ifCond .eq 7, 3) := by decide +kernel
theorem d_M_conflict_81 : decode b_M_conflict 81 = .ok (.iconst 1, 1) := by decide +kernel
theorem d_M_conflict_82 : decode b_M_conflict 82 = .ok (.goto 4, 3) := by decide +kernel
theorem d_M_conflict_85 : decode b_M_conflict 85 = .ok (.iconst 0, 1) := by decide +kernel
theorem d_M_conflict_86 : decode b_M_conflict 86 = .ok (.iadd, 1) := by decide +kernel
theorem d_M_conflict_87 : decode b_M_conflict 87 = .ok (.istore 5, 2) := by decide +kernel
theorem d_M_conflict_89 : decode b_M_conflict 89 = .ok (.iinc 6 1, 3) := by decide +kernel
theorem d_M_conflict_92 : decode b_M_conflict 92 = .ok (.goto (-42), 3) := by decide +kernel
theorem d_M_conflict_95 : decode b_M_conflict 95 = .ok (.iload 5, 2) := by decide +kernel
theorem d_M_conflict_97 : decode b_M_conflict 97 = .ok (.iload_n 2, 1) := by decide +kernel
theorem d_M_conflict_98 : decode b_M_conflict 98 = .ok (.if_icmp .ne 101, 3) := by decide +kernel
theorem d_M_conflict_101 : decode b_M_conflict 101 = .ok (.iload_n 3, 1) := by decide +kernel
theorem d_M_conflict_102 : decode b_M_conflict 102 = .ok (.iconst 3, 1) := by decide +kernel
theorem d_M_conflict_103 : decode b_M_conflict 103 = .ok (.if_icmp .le 15, 3) := by decide +kernel
theorem d_M_conflict_106 : decode b_M_conflict 106 = .ok (.aload_n 0, 1) := by decide +kernel
theorem d_M_conflict_107 : decode b_M_conflict 107 = .ok (.iload 4, 2) := by decide +kernel
theorem d_M_conflict_109 : decode b_M_conflict 109 = .ok (.iload_n 3, 1) := by decide +kernel
theorem d_M_conflict_110 : decode b_M_conflict 110 = .ok (.iconst 4, 1) := by decide +kernel
theorem d_M_conflict_111 : decode b_M_conflict 111 = .ok (.isub, 1) := by decide +kernel
theorem d_M_conflict_112 : decode b_M_conflict 112 = .ok (.invokevirtual 97, 3) := by decide +kernel
theorem d_M_conflict_115 : decode b_M_conflict 115 = .ok (.goto 4, 3) := by decide +kernel
theorem d_M_conflict_118 : decode b_M_conflict 118 = .ok (.iconst (-1), 1) := by decide +kernel
theorem d_M_conflict_119 : decode b_M_conflict 119 = .ok (.istore 6, 2) := by decide +kernel
theorem d_M_conflict_121 : decode b_M_conflict 121 = .ok (.iload_n 3, 1) := by decide +kernel
theorem d_M_conflict_122 : decode b_M_conflict 122 = .ok (.ifCond .ne 13, 3) := by decide +kernel
theorem d_M_conflict_125 : decode b_M_conflict 125 = .ok (.aload_n 0, 1) := by decide +kernel
theorem d_M_conflict_126 : decode b_M_conflict 126 = .ok (.getfield 23, 3) := by decide +kernel
