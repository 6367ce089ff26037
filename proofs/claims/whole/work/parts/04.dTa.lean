theorem d_T_init_0 : decode b_T_init 0 = .ok (.aload_n 0, 1) := by decide +kernel
theorem d_T_init_1 : decode b_T_init 1 = .ok (.invokespecial 1, 3) := by decide +kernel
theorem d_T_init_4 : decode b_T_init 4 = .ok (.aload_n 0, 1) := by decide +kernel
theorem d_T_init_5 : decode b_T_init 5 = .ok (.bipush 8, 2) := by decide +kernel
theorem d_T_init_7 : decode b_T_init 7 = .ok (.anewarray 9, 3) := by decide +kernel
theorem d_T_init_10 : decode b_T_init 10 = .ok (.putfield 11, 3) := by decide +kernel
theorem d_T_init_13 : decode b_T_init 13 = .ok (.aload_n 0, 1) := by decide +kernel
theorem d_T_init_14 : decode b_T_init 14 = .ok (.bipush 40, 2) := by decide +kernel
theorem d_T_init_16 : decode b_T_init 16 = .ok (.newarray .int, 2) := by decide +kernel
theorem d_T_init_18 : decode b_T_init 18 = .ok (.putfield 15, 3) := by decide +kernel
theorem d_T_init_21 : decode b_T_init 21 = .ok (.aload_n 0, 1) := by decide +kernel
theorem d_T_init_22 : decode b_T_init 22 = .ok (.new 19, 3) := by decide +kernel
theorem d_T_init_25 : decode b_T_init 25 = .ok (.dup, 1) := by decide +kernel
theorem d_T_init_26 : decode b_T_init 26 = .ok (.invokespecial 21, 3) := by decide +kernel
theorem d_T_init_29 : decode b_T_init 29 = .ok (.putfield 22, 3) := by decide +kernel
theorem d_T_init_32 : decode b_T_init 32 = .ok (.aload_n 0, 1) := by decide +kernel
theorem d_T_init_33 : decode b_T_init 33 = .ok (.new 26, 3) := by decide +kernel
theorem d_T_init_36 : decode b_T_init 36 = .ok (.dup, 1) := by decide +kernel
theorem d_T_init_37 : decode b_T_init 37 = .ok (.invokespecial 28, 3) := by decide +kernel
theorem d_T_init_40 : decode b_T_init 40 = .ok (.putfield 29, 3) := by decide +kernel
theorem d_T_init_43 : decode b_T_init 43 = .ok (.return_, 1) := by decide +kernel
theorem d_T_desk_0 : decode b_T_desk 0 = .ok (.aload_n 0, 1) := by decide +kernel
theorem d_T_desk_1 : decode b_T_desk 1 = .ok (.getfield 33, 3) := by decide +kernel
theorem d_T_desk_4 : decode b_T_desk 4 = .ok (.bipush 8, 2) := by decide +kernel
theorem d_T_desk_6 : decode b_T_desk 6 = .ok (.if_icmp .lt 6, 3) := by decide +kernel
theorem d_T_desk_9 : decode b_T_desk 9 = .ok (.bipush (-2), 2) := by decide +kernel
theorem d_T_desk_11 : decode b_T_desk 11 = .ok (.ireturn, 1) := by decide +kernel
theorem d_T_desk_12 : decode b_T_desk 12 = .ok (.aload_n 0, 1) := by decide +kernel
theorem d_T_desk_13 : decode b_T_desk 13 = .ok (.getfield 33, 3) := by decide +kernel
theorem d_T_desk_16 : decode b_T_desk 16 = .ok (.istore_n 1, 1) := by decide +kernel
theorem d_T_desk_17 : decode b_T_desk 17 = .ok (.aload_n 0, 1) := by decide +kernel
theorem d_T_desk_18 : decode b_T_desk 18 = .ok (.getfield 11, 3) := by decide +kernel
theorem d_T_desk_21 : decode b_T_desk 21 = .ok (.iload_n 1, 1) := by decide +kernel
theorem d_T_desk_22 : decode b_T_desk 22 = .ok (.new 9, 3) := by decide +kernel
theorem d_T_desk_25 : decode b_T_desk 25 = .ok (.dup, 1) := by decide +kernel
theorem d_T_desk_26 : decode b_T_desk 26 = .ok (.iload_n 1, 1) := by decide +kernel
theorem d_T_desk_27 : decode b_T_desk 27 = .ok (.invokespecial 37, 3) := by decide +kernel
theorem d_T_desk_30 : decode b_T_desk 30 = .ok (.aastore, 1) := by decide +kernel
theorem d_T_desk_31 : decode b_T_desk 31 = .ok (.aload_n 0, 1) := by decide +kernel
theorem d_T_desk_32 : decode b_T_desk 32 = .ok (.dup, 1) := by decide +kernel
theorem d_T_desk_33 : decode b_T_desk 33 = .ok (.getfield 33, 3) := by decide +kernel
theorem d_T_desk_36 : decode b_T_desk 36 = .ok (.iconst 1, 1) := by decide +kernel
theorem d_T_desk_37 : decode b_T_desk 37 = .ok (.iadd, 1) := by decide +kernel
theorem d_T_desk_38 : decode b_T_desk 38 = .ok (.putfield 33, 3) := by decide +kernel
theorem d_T_desk_41 : decode b_T_desk 41 = .ok (.iload_n 1, 1) := by decide +kernel
theorem d_T_desk_42 : decode b_T_desk 42 = .ok (.ireturn, 1) := by decide +kernel
theorem d_T_tell_0 : decode b_T_tell 0 = .ok (.aload_n 0, 1) := by decide +kernel
theorem d_T_tell_1 : decode b_T_tell 1 = .ok (.iload_n 1, 1) := by decide +kernel
theorem d_T_tell_2 : decode b_T_tell 2 = .ok (.invokevirtual 40, 3) := by decide +kernel
theorem d_T_tell_5 : decode b_T_tell 5 = .ok (.astore 8, 2) := by decide +kernel
theorem d_T_tell_7 : decode b_T_tell 7 = .ok (.aload 8, 2) := by decide +kernel
theorem d_T_tell_9 : decode b_T_tell 9 = .ok (.ifnull 27, 3) := by decide +kernel
theorem d_T_tell_12 : decode b_T_tell 12 = .ok (.iload_n 2, 1) := by decide +kernel
theorem d_T_tell_13 : decode b_T_tell 13 = .ok (.iload_n 3, 1) := by decide +kernel
theorem d_T_tell_14 : decode b_T_tell 14 = .ok (.invokestatic 44, 3) := by decide +kernel
theorem d_T_tell_17 : decode b_T_tell 17 = .ok (.ifCond .eq 19, 3) := by decide +kernel
theorem d_T_tell_20 : decode b_T_tell 20 = .ok (.lload 4, 2) := by decide +kernel
theorem d_T_tell_22 : decode b_T_tell 22 = .ok (.lconst 0, 1) := by decide +kernel
theorem d_T_tell_23 : decode b_T_tell 23 = .ok (.lcmp, 1) := by decide +kernel
theorem d_T_tell_24 : decode b_T_tell 24 = .ok (.ifCond .lt 12, 3) := by decide +kernel
theorem d_T_tell_27 : decode b_T_tell 27 = .ok (.lload 4, 2) := by decide +kernel
theorem d_T_tell_29 : decode b_T_tell 29 = .ok (.ldc2_w 48, 3) := by decide +kernel
theorem d_T_tell_32 : decode b_T_tell 32 = .ok (.lcmp, 1) := by decide +kernel
theorem d_T_tell_33 : decode b_T_tell 33 = .ok (.ifCond .lt 5, 3) := by decide +kernel
theorem d_T_tell_36 : decode b_T_tell 36 = .ok (.iconst (-1), 1) := by decide +kernel
theorem d_T_tell_37 : decode b_T_tell 37 = .ok (.ireturn, 1) := by decide +kernel
theorem d_T_tell_38 : decode b_T_tell 38 = .ok (.aload_n 0, 1) := by decide +kernel
theorem d_T_tell_39 : decode b_T_tell 39 = .ok (.getfield 29, 3) := by decide +kernel
theorem d_T_tell_42 : decode b_T_tell 42 = .ok (.invokevirtual 50, 3) := by decide +kernel
theorem d_T_tell_45 : decode b_T_tell 45 = .ok (.aload_n 0, 1) := by decide +kernel
theorem d_T_tell_46 : decode b_T_tell 46 = .ok (.aload 8, 2) := by decide +kernel
theorem d_T_tell_48 : decode b_T_tell 48 = .ok (.iload_n 2, 1) := by decide +kernel
theorem d_T_tell_49 : decode b_T_tell 49 = .ok (.iload_n 3, 1) := by decide +kernel
theorem d_T_tell_50 : decode b_T_tell 50 = .ok (.lload 4, 2) := by decide +kernel
theorem d_T_tell_52 : decode b_T_tell 52 = .ok (.l2i, 1) := by decide +kernel
theorem d_T_tell_53 : decode b_T_tell 53 = .ok (.invokestatic 53, 3) := by decide +kernel
theorem d_T_tell_56 : decode b_T_tell 56 = .ok (.lload 6, 2) := by decide +kernel
theorem d_T_tell_58 : decode b_T_tell 58 = .ok (.aload_n 0, 1) := by decide +kernel
theorem d_T_tell_59 : decode b_T_tell 59 = .ok (.getfield 29, 3) := by decide +kernel
theorem d_T_tell_62 : decode b_T_tell 62 = .ok (.invokevirtual 57, 3) := by decide +kernel
theorem d_T_tell_65 : decode b_T_tell 65 = .ok (.ireturn, 1) := by decide +kernel
theorem d_T_correct_0 : decode b_T_correct 0 = .ok (.aload_n 0, 1) := by decide +kernel
theorem d_T_correct_1 : decode b_T_correct 1 = .ok (.iload_n 1, 1) := by decide +kernel
theorem d_T_correct_2 : decode b_T_correct 2 = .ok (.invokevirtual 40, 3) := by decide +kernel
theorem d_T_correct_5 : decode b_T_correct 5 = .ok (.astore 5, 2) := by decide +kernel
theorem d_T_correct_7 : decode b_T_correct 7 = .ok (.aload_n 0, 1) := by decide +kernel
theorem d_T_correct_8 : decode b_T_correct 8 = .ok (.getfield 22, 3) := by decide +kernel
theorem d_T_correct_11 : decode b_T_correct 11 = .ok (.iload_n 2, 1) := by decide +kernel
theorem d_T_correct_12 : decode b_T_correct 12 = .ok (.invokevirtual 61, 3) := by decide +kernel
theorem d_T_correct_15 : decode b_T_correct 15 = .ok (.istore 6, 2) := by decide +kernel
theorem d_T_correct_17 : decode b_T_correct 17 = .ok (.aload 5, 2) := by decide +kernel
theorem d_T_correct_19 : decode b_T_correct 19 = .ok (.ifnull 26, 3) := by decide +kernel
theorem d_T_correct_22 : decode b_T_correct 22 = .ok (.iload 6, 2) := by decide +kernel
theorem d_T_correct_24 : decode b_T_correct 24 = .ok (.iconst (-1), 1) := by decide +kernel
theorem d_T_correct_25 : decode b_T_correct 25 = .ok (.if_icmp .eq 20, 3) := by decide +kernel
theorem d_T_correct_28 : decode b_T_correct 28 = .ok (.aload_n 0, 1) := by decide +kernel
theorem d_T_correct_29 : decode b_T_correct 29 = .ok (.getfield 22, 3) := by decide +kernel
theorem d_T_correct_32 : decode b_T_correct 32 = .ok (.aload 5, 2) := by decide +kernel
theorem d_T_correct_34 : decode b_T_correct 34 = .ok (.getfield 65, 3) := by decide +kernel
theorem d_T_correct_37 : decode b_T_correct 37 = .ok (.iload 6, 2) := by decide +kernel
theorem d_T_correct_39 : decode b_T_correct 39 = .ok (.invokevirtual 68, 3) := by decide +kernel
theorem d_T_correct_42 : decode b_T_correct 42 = .ok (.ifCond .ne 5, 3) := by decide +kernel
theorem d_T_correct_45 : decode b_T_correct 45 = .ok (.iconst (-1), 1) := by decide +kernel
theorem d_T_correct_46 : decode b_T_correct 46 = .ok (.ireturn, 1) := by decide +kernel
theorem d_T_correct_47 : decode b_T_correct 47 = .ok (.aload_n 0, 1) := by decide +kernel
theorem d_T_correct_48 : decode b_T_correct 48 = .ok (.getfield 29, 3) := by decide +kernel
theorem d_T_correct_51 : decode b_T_correct 51 = .ok (.invokevirtual 50, 3) := by decide +kernel
theorem d_T_correct_54 : decode b_T_correct 54 = .ok (.aload_n 0, 1) := by decide +kernel
theorem d_T_correct_55 : decode b_T_correct 55 = .ok (.getfield 29, 3) := by decide +kernel
theorem d_T_correct_58 : decode b_T_correct 58 = .ok (.iload 6, 2) := by decide +kernel
theorem d_T_correct_60 : decode b_T_correct 60 = .ok (.invokevirtual 72, 3) := by decide +kernel
theorem d_T_correct_63 : decode b_T_correct 63 = .ok (.aload_n 0, 1) := by decide +kernel
theorem d_T_correct_64 : decode b_T_correct 64 = .ok (.aload 5, 2) := by decide +kernel
theorem d_T_correct_66 : decode b_T_correct 66 = .ok (.aload_n 0, 1) := by decide +kernel
theorem d_T_correct_67 : decode b_T_correct 67 = .ok (.getfield 22, 3) := by decide +kernel
theorem d_T_correct_70 : decode b_T_correct 70 = .ok (.getfield 75, 3) := by decide +kernel
theorem d_T_correct_73 : decode b_T_correct 73 = .ok (.iload 6, 2) := by decide +kernel
theorem d_T_correct_75 : decode b_T_correct 75 = .ok (.iaload, 1) := by decide +kernel
theorem d_T_correct_76 : decode b_T_correct 76 = .ok (.lload_n 3, 1) := by decide +kernel
theorem d_T_correct_77 : decode b_T_correct 77 = .ok (.aload_n 0, 1) := by decide +kernel
theorem d_T_correct_78 : decode b_T_correct 78 = .ok (.getfield 29, 3) := by decide +kernel
theorem d_T_correct_81 : decode b_T_correct 81 = .ok (.invokevirtual 57, 3) := by decide +kernel
theorem d_T_correct_84 : decode b_T_correct 84 = .ok (.ireturn, 1) := by decide +kernel
theorem d_T_join_0 : decode b_T_join 0 = .ok (.aload_n 0, 1) := by decide +kernel
theorem d_T_join_1 : decode b_T_join 1 = .ok (.iload_n 1, 1) := by decide +kernel
theorem d_T_join_2 : decode b_T_join 2 = .ok (.iload_n 2, 1) := by decide +kernel
theorem d_T_join_3 : decode b_T_join 3 = .ok (.invokevirtual 78, 3) := by decide +kernel
theorem d_T_join_6 : decode b_T_join 6 = .ok (.astore_n 3, 1) := by decide +kernel
theorem d_T_join_7 : decode b_T_join 7 = .ok (.aload_n 3, 1) := by decide +kernel
theorem d_T_join_8 : decode b_T_join 8 = .ok (.ifnonnull 7, 3) := by decide +kernel
theorem d_T_join_11 : decode b_T_join 11 = .ok (.iconst (-1), 1) := by decide +kernel
theorem d_T_join_12 : decode b_T_join 12 = .ok (.goto 14, 3) := by decide +kernel
theorem d_T_join_15 : decode b_T_join 15 = .ok (.aload_n 0, 1) := by decide +kernel
theorem d_T_join_16 : decode b_T_join 16 = .ok (.getfield 22, 3) := by decide +kernel
theorem d_T_join_19 : decode b_T_join 19 = .ok (.aload_n 3, 1) := by decide +kernel
theorem d_T_join_20 : decode b_T_join 20 = .ok (.getfield 65, 3) := by decide +kernel
theorem d_T_join_23 : decode b_T_join 23 = .ok (.invokevirtual 82, 3) := by decide +kernel
theorem d_T_join_26 : decode b_T_join 26 = .ok (.ireturn, 1) := by decide +kernel
theorem d_T_known_0 : decode b_T_known 0 = .ok (.aload_n 0, 1) := by decide +kernel
theorem d_T_known_1 : decode b_T_known 1 = .ok (.iload_n 1, 1) := by decide +kernel
theorem d_T_known_2 : decode b_T_known 2 = .ok (.invokevirtual 40, 3) := by decide +kernel
theorem d_T_known_5 : decode b_T_known 5 = .ok (.astore 8, 2) := by decide +kernel
theorem d_T_known_7 : decode b_T_known 7 = .ok (.aload 8, 2) := by decide +kernel
theorem d_T_known_9 : decode b_T_known 9 = .ok (.ifnull 11, 3) := by decide +kernel
theorem d_T_known_12 : decode b_T_known 12 = .ok (.iload_n 2, 1) := by decide +kernel
theorem d_T_known_13 : decode b_T_known 13 = .ok (.iload_n 3, 1) := by decide +kernel
theorem d_T_known_14 : decode b_T_known 14 = .ok (.invokestatic 44, 3) := by decide +kernel
theorem d_T_known_17 : decode b_T_known 17 = .ok (.ifCond .ne 7, 3) := by decide +kernel
theorem d_T_known_20 : decode b_T_known 20 = .ok (.ldc2_w 86, 3) := by decide +kernel
theorem d_T_known_23 : decode b_T_known 23 = .ok (.lreturn, 1) := by decide +kernel
theorem d_T_known_24 : decode b_T_known 24 = .ok (.aload_n 0, 1) := by decide +kernel
theorem d_T_known_25 : decode b_T_known 25 = .ok (.getfield 22, 3) := by decide +kernel
theorem d_T_known_28 : decode b_T_known 28 = .ok (.lload 6, 2) := by decide +kernel
theorem d_T_known_30 : decode b_T_known 30 = .ok (.aload 8, 2) := by decide +kernel
theorem d_T_known_32 : decode b_T_known 32 = .ok (.getfield 65, 3) := by decide +kernel
theorem d_T_known_35 : decode b_T_known 35 = .ok (.aload_n 0, 1) := by decide +kernel
theorem d_T_known_36 : decode b_T_known 36 = .ok (.getfield 29, 3) := by decide +kernel
theorem d_T_known_39 : decode b_T_known 39 = .ok (.invokevirtual 88, 3) := by decide +kernel
theorem d_T_known_42 : decode b_T_known 42 = .ok (.aload_n 0, 1) := by decide +kernel
theorem d_T_known_43 : decode b_T_known 43 = .ok (.getfield 22, 3) := by decide +kernel
theorem d_T_known_46 : decode b_T_known 46 = .ok (.aload_n 0, 1) := by decide +kernel
theorem d_T_known_47 : decode b_T_known 47 = .ok (.getfield 29, 3) := by decide +kernel
theorem d_T_known_50 : decode b_T_known 50 = .ok (.iload_n 2, 1) := by decide +kernel
theorem d_T_known_51 : decode b_T_known 51 = .ok (.iload_n 3, 1) := by decide +kernel
theorem d_T_known_52 : decode b_T_known 52 = .ok (.lload 4, 2) := by decide +kernel
theorem d_T_known_54 : decode b_T_known 54 = .ok (.invokevirtual 92, 3) := by decide +kernel
theorem d_T_known_57 : decode b_T_known 57 = .ok (.istore 9, 2) := by decide +kernel
theorem d_T_known_59 : decode b_T_known 59 = .ok (.iload 9, 2) := by decide +kernel
theorem d_T_known_61 : decode b_T_known 61 = .ok (.iconst (-1), 1) := by decide +kernel
theorem d_T_known_62 : decode b_T_known 62 = .ok (.if_icmp .ne 9, 3) := by decide +kernel
theorem d_T_known_65 : decode b_T_known 65 = .ok (.ldc2_w 86, 3) := by decide +kernel
theorem d_T_known_68 : decode b_T_known 68 = .ok (.goto 13, 3) := by decide +kernel
theorem d_T_known_71 : decode b_T_known 71 = .ok (.aload_n 0, 1) := by decide +kernel
theorem d_T_known_72 : decode b_T_known 72 = .ok (.getfield 22, 3) := by decide +kernel
theorem d_T_known_75 : decode b_T_known 75 = .ok (.getfield 96, 3) := by decide +kernel
theorem d_T_known_78 : decode b_T_known 78 = .ok (.iload 9, 2) := by decide +kernel
theorem d_T_known_80 : decode b_T_known 80 = .ok (.laload, 1) := by decide +kernel
theorem d_T_known_81 : decode b_T_known 81 = .ok (.lreturn, 1) := by decide +kernel
theorem d_T_conflict_0 : decode b_T_conflict 0 = .ok (.aload_n 0, 1) := by decide +kernel
theorem d_T_conflict_1 : decode b_T_conflict 1 = .ok (.iload_n 1, 1) := by decide +kernel
theorem d_T_conflict_2 : decode b_T_conflict 2 = .ok (.invokevirtual 40, 3) := by decide +kernel
theorem d_T_conflict_5 : decode b_T_conflict 5 = .ok (.astore 4, 2) := by decide +kernel
theorem d_T_conflict_7 : decode b_T_conflict 7 = .ok (.aload 4, 2) := by decide +kernel
theorem d_T_conflict_9 : decode b_T_conflict 9 = .ok (.ifnull 11, 3) := by decide +kernel
theorem d_T_conflict_12 : decode b_T_conflict 12 = .ok (.iload_n 2, 1) := by decide +kernel
theorem d_T_conflict_13 : decode b_T_conflict 13 = .ok (.ifCond .lt 7, 3) := by decide +kernel
theorem d_T_conflict_16 : decode b_T_conflict 16 = .ok (.iload_n 3, 1) := by decide +kernel
theorem d_T_conflict_17 : decode b_T_conflict 17 = .ok (.ifCond .ge 5, 3) := by decide +kernel
theorem d_T_conflict_20 : decode b_T_conflict 20 = .ok (.iconst (-1), 1) := by decide +kernel
theorem d_T_conflict_21 : decode b_T_conflict 21 = .ok (.ireturn, 1) := by decide +kernel
theorem d_T_conflict_22 : decode b_T_conflict 22 = .ok (.aload_n 0, 1) := by decide +kernel
theorem d_T_conflict_23 : decode b_T_conflict 23 = .ok (.getfield 22, 3) := by decide +kernel
theorem d_T_conflict_26 : decode b_T_conflict 26 = .ok (.aload 4, 2) := by decide +kernel
theorem d_T_conflict_28 : decode b_T_conflict 28 = .ok (.getfield 65, 3) := by decide +kernel
theorem d_T_conflict_31 : decode b_T_conflict 31 = .ok (.iconst 0, 1) := by decide +kernel
theorem d_T_conflict_32 : decode b_T_conflict 32 = .ok (.iload_n 2, 1) := by decide +kernel
theorem d_T_conflict_33 : decode b_T_conflict 33 = .ok (.invokevirtual 100, 3) := by decide +kernel
theorem d_T_conflict_36 : decode b_T_conflict 36 = .ok (.istore 5, 2) := by decide +kernel
theorem d_T_conflict_38 : decode b_T_conflict 38 = .ok (.iload 5, 2) := by decide +kernel
theorem d_T_conflict_40 : decode b_T_conflict 40 = .ok (.iconst (-1), 1) := by decide +kernel
theorem d_T_conflict_41 : decode b_T_conflict 41 = .ok (.if_icmp .ne 5, 3) := by decide +kernel
theorem d_T_conflict_44 : decode b_T_conflict 44 = .ok (.iconst (-1), 1) := by decide +kernel
theorem d_T_conflict_45 : decode b_T_conflict 45 = .ok (.ireturn, 1) := by decide +kernel
theorem d_T_conflict_46 : decode b_T_conflict 46 = .ok (.aload_n 0, 1) := by decide +kernel
theorem d_T_conflict_47 : decode b_T_conflict 47 = .ok (.getfield 22, 3) := by decide +kernel
theorem d_T_conflict_50 : decode b_T_conflict 50 = .ok (.aload 4, 2) := by decide +kernel
theorem d_T_conflict_52 : decode b_T_conflict 52 = .ok (.getfield 65, 3) := by decide +kernel
theorem d_T_conflict_55 : decode b_T_conflict 55 = .ok (.iload 5, 2) := by decide +kernel
theorem d_T_conflict_57 : decode b_T_conflict 57 = .ok (.aload_n 0, 1) := by decide +kernel
theorem d_T_conflict_58 : decode b_T_conflict 58 = .ok (.getfield 29, 3) := by decide +kernel
theorem d_T_conflict_61 : decode b_T_conflict 61 = .ok (.invokevirtual 104, 3) := by decide +kernel
theorem d_T_conflict_64 : decode b_T_conflict 64 = .ok (.iload_n 3, 1) := by decide +kernel
theorem d_T_conflict_65 : decode b_T_conflict 65 = .ok (.tableswitch 57 0 3 #[31, 37, 43, 49], 31) := by decide +kernel
theorem d_T_conflict_96 : decode b_T_conflict 96 = .ok (.iload 5, 2) := by decide +kernel
theorem d_T_conflict_98 : decode b_T_conflict 98 = .ok (.invokestatic 108, 3) := by decide +kernel
theorem d_T_conflict_101 : decode b_T_conflict 101 = .ok (.ireturn, 1) := by decide +kernel
theorem d_T_conflict_102 : decode b_T_conflict 102 = .ok (.iload 5, 2) := by decide +kernel
theorem d_T_conflict_104 : decode b_T_conflict 104 = .ok (.invokestatic 111, 3) := by decide +kernel
theorem d_T_conflict_107 : decode b_T_conflict 107 = .ok (.ireturn, 1) := by decide +kernel
theorem d_T_conflict_108 : decode b_T_conflict 108 = .ok (.iload 5, 2) := by decide +kernel
theorem d_T_conflict_110 : decode b_T_conflict 110 = .ok (.invokestatic 114, 3) := by decide +kernel
theorem d_T_conflict_113 : decode b_T_conflict 113 = .ok (.ireturn, 1) := by decide +kernel
theorem d_T_conflict_114 : decode b_T_conflict 114 = .ok (.aload_n 0, 1) := by decide +kernel
theorem d_T_conflict_115 : decode b_T_conflict 115 = .ok (.getfield 29, 3) := by decide +kernel
theorem d_T_conflict_118 : decode b_T_conflict 118 = .ok (.invokevirtual 117, 3) := by decide +kernel
theorem d_T_conflict_121 : decode b_T_conflict 121 = .ok (.ireturn, 1) := by decide +kernel
theorem d_T_conflict_122 : decode b_T_conflict 122 = .ok (.aload_n 0, 1) := by decide +kernel
theorem d_T_conflict_123 : decode b_T_conflict 123 = .ok (.aload_n 0, 1) := by decide +kernel
theorem d_T_conflict_124 : decode b_T_conflict 124 = .ok (.getfield 22, 3) := by decide +kernel
theorem d_T_conflict_127 : decode b_T_conflict 127 = .ok (.aload_n 0, 1) := by decide +kernel
theorem d_T_conflict_128 : decode b_T_conflict 128 = .ok (.getfield 29, 3) := by decide +kernel
theorem d_T_conflict_131 : decode b_T_conflict 131 = .ok (.iload_n 3, 1) := by decide +kernel
theorem d_T_conflict_132 : decode b_T_conflict 132 = .ok (.iconst 4, 1) := by decide +kernel
theorem d_T_conflict_133 : decode b_T_conflict 133 = .ok (.isub, 1) := by decide +kernel
theorem d_T_conflict_134 : decode b_T_conflict 134 = .ok (.invokevirtual 121, 3) := by decide +kernel
theorem d_T_conflict_137 : decode b_T_conflict 137 = .ok (.invokevirtual 125, 3) := by decide +kernel
theorem d_T_conflict_140 : decode b_T_conflict 140 = .ok (.ireturn, 1) := by decide +kernel
theorem d_T_settle_0 : decode b_T_settle 0 = .ok (.aload_n 0, 1) := by decide +kernel
theorem d_T_settle_1 : decode b_T_settle 1 = .ok (.iload_n 1, 1) := by decide +kernel
theorem d_T_settle_2 : decode b_T_settle 2 = .ok (.invokevirtual 40, 3) := by decide +kernel
theorem d_T_settle_5 : decode b_T_settle 5 = .ok (.astore 5, 2) := by decide +kernel
theorem d_T_settle_7 : decode b_T_settle 7 = .ok (.aload 5, 2) := by decide +kernel
theorem d_T_settle_9 : decode b_T_settle 9 = .ok (.ifnull 11, 3) := by decide +kernel
theorem d_T_settle_12 : decode b_T_settle 12 = .ok (.iload_n 2, 1) := by decide +kernel
theorem d_T_settle_13 : decode b_T_settle 13 = .ok (.iload_n 3, 1) := by decide +kernel
theorem d_T_settle_14 : decode b_T_settle 14 = .ok (.invokestatic 44, 3) := by decide +kernel
theorem d_T_settle_17 : decode b_T_settle 17 = .ok (.ifCond .ne 5, 3) := by decide +kernel
theorem d_T_settle_20 : decode b_T_settle 20 = .ok (.iconst (-1), 1) := by decide +kernel
theorem d_T_settle_21 : decode b_T_settle 21 = .ok (.ireturn, 1) := by decide +kernel
theorem d_T_settle_22 : decode b_T_settle 22 = .ok (.aload_n 0, 1) := by decide +kernel
theorem d_T_settle_23 : decode b_T_settle 23 = .ok (.getfield 22, 3) := by decide +kernel
theorem d_T_settle_26 : decode b_T_settle 26 = .ok (.aload 5, 2) := by decide +kernel
theorem d_T_settle_28 : decode b_T_settle 28 = .ok (.getfield 65, 3) := by decide +kernel
theorem d_T_settle_31 : decode b_T_settle 31 = .ok (.iload_n 2, 1) := by decide +kernel
theorem d_T_settle_32 : decode b_T_settle 32 = .ok (.iload_n 3, 1) := by decide +kernel
theorem d_T_settle_33 : decode b_T_settle 33 = .ok (.iconst 0, 1) := by decide +kernel
theorem d_T_settle_34 : decode b_T_settle 34 = .ok (.invokestatic 53, 3) := by decide +kernel
theorem d_T_settle_37 : decode b_T_settle 37 = .ok (.iconst 0, 1) := by decide +kernel
theorem d_T_settle_38 : decode b_T_settle 38 = .ok (.invokevirtual 100, 3) := by decide +kernel
theorem d_T_settle_41 : decode b_T_settle 41 = .ok (.istore 6, 2) := by decide +kernel
theorem d_T_settle_43 : decode b_T_settle 43 = .ok (.iload 6, 2) := by decide +kernel
theorem d_T_settle_45 : decode b_T_settle 45 = .ok (.iconst (-1), 1) := by decide +kernel
theorem d_T_settle_46 : decode b_T_settle 46 = .ok (.if_icmp .eq 15, 3) := by decide +kernel
theorem d_T_settle_49 : decode b_T_settle 49 = .ok (.iload 6, 2) := by decide +kernel
theorem d_T_settle_51 : decode b_T_settle 51 = .ok (.iload_n 2, 1) := by decide +kernel
theorem d_T_settle_52 : decode b_T_settle 52 = .ok (.iload_n 3, 1) := by decide +kernel
theorem d_T_settle_53 : decode b_T_settle 53 = .ok (.ldc 128, 2) := by decide +kernel
theorem d_T_settle_55 : decode b_T_settle 55 = .ok (.invokestatic 53, 3) := by decide +kernel
theorem d_T_settle_58 : decode b_T_settle 58 = .ok (.if_icmp .le 5, 3) := by decide +kernel
theorem d_T_settle_61 : decode b_T_settle 61 = .ok (.iconst (-1), 1) := by decide +kernel
theorem d_T_settle_62 : decode b_T_settle 62 = .ok (.ireturn, 1) := by decide +kernel
theorem d_T_settle_63 : decode b_T_settle 63 = .ok (.aload_n 0, 1) := by decide +kernel
theorem d_T_settle_64 : decode b_T_settle 64 = .ok (.getfield 22, 3) := by decide +kernel
theorem d_T_settle_67 : decode b_T_settle 67 = .ok (.aload 5, 2) := by decide +kernel
theorem d_T_settle_69 : decode b_T_settle 69 = .ok (.getfield 65, 3) := by decide +kernel
theorem d_T_settle_72 : decode b_T_settle 72 = .ok (.iload 6, 2) := by decide +kernel
theorem d_T_settle_74 : decode b_T_settle 74 = .ok (.aload_n 0, 1) := by decide +kernel
theorem d_T_settle_75 : decode b_T_settle 75 = .ok (.getfield 29, 3) := by decide +kernel
theorem d_T_settle_78 : decode b_T_settle 78 = .ok (.invokevirtual 104, 3) := by decide +kernel
theorem d_T_settle_81 : decode b_T_settle 81 = .ok (.aload_n 0, 1) := by decide +kernel
theorem d_T_settle_82 : decode b_T_settle 82 = .ok (.getfield 22, 3) := by decide +kernel
theorem d_T_settle_85 : decode b_T_settle 85 = .ok (.aload_n 0, 1) := by decide +kernel
theorem d_T_settle_86 : decode b_T_settle 86 = .ok (.getfield 29, 3) := by decide +kernel
theorem d_T_settle_89 : decode b_T_settle 89 = .ok (.iload 4, 2) := by decide +kernel
theorem d_T_settle_91 : decode b_T_settle 91 = .ok (.invokevirtual 121, 3) := by decide +kernel
theorem d_T_settle_94 : decode b_T_settle 94 = .ok (.istore 7, 2) := by decide +kernel
theorem d_T_settle_96 : decode b_T_settle 96 = .ok (.iload 7, 2) := by decide +kernel
theorem d_T_settle_98 : decode b_T_settle 98 = .ok (.iconst (-1), 1) := by decide +kernel
theorem d_T_settle_99 : decode b_T_settle 99 = .ok (.if_icmp .ne 5, 3) := by decide +kernel
theorem d_T_settle_102 : decode b_T_settle 102 = .ok (.iconst (-1), 1) := by decide +kernel
theorem d_T_settle_103 : decode b_T_settle 103 = .ok (.ireturn, 1) := by decide +kernel
theorem d_T_settle_104 : decode b_T_settle 104 = .ok (.aload_n 0, 1) := by decide +kernel
theorem d_T_settle_105 : decode b_T_settle 105 = .ok (.aload 5, 2) := by decide +kernel
theorem d_T_settle_107 : decode b_T_settle 107 = .ok (.iload 6, 2) := by decide +kernel
theorem d_T_settle_109 : decode b_T_settle 109 = .ok (.aload_n 0, 1) := by decide +kernel
theorem d_T_settle_110 : decode b_T_settle 110 = .ok (.getfield 22, 3) := by decide +kernel
theorem d_T_settle_113 : decode b_T_settle 113 = .ok (.getfield 96, 3) := by decide +kernel
theorem d_T_settle_116 : decode b_T_settle 116 = .ok (.iload 7, 2) := by decide +kernel
theorem d_T_settle_118 : decode b_T_settle 118 = .ok (.laload, 1) := by decide +kernel
theorem d_T_settle_119 : decode b_T_settle 119 = .ok (.aload_n 0, 1) := by decide +kernel
theorem d_T_settle_120 : decode b_T_settle 120 = .ok (.getfield 29, 3) := by decide +kernel
theorem d_T_settle_123 : decode b_T_settle 123 = .ok (.invokevirtual 57, 3) := by decide +kernel
theorem d_T_settle_126 : decode b_T_settle 126 = .ok (.ireturn, 1) := by decide +kernel
theorem d_T_equal_0 : decode b_T_equal 0 = .ok (.aload_n 0, 1) := by decide +kernel
theorem d_T_equal_1 : decode b_T_equal 1 = .ok (.iload_n 1, 1) := by decide +kernel
theorem d_T_equal_2 : decode b_T_equal 2 = .ok (.invokevirtual 40, 3) := by decide +kernel
theorem d_T_equal_5 : decode b_T_equal 5 = .ok (.astore_n 3, 1) := by decide +kernel
theorem d_T_equal_6 : decode b_T_equal 6 = .ok (.aload_n 0, 1) := by decide +kernel
theorem d_T_equal_7 : decode b_T_equal 7 = .ok (.iload_n 2, 1) := by decide +kernel
theorem d_T_equal_8 : decode b_T_equal 8 = .ok (.invokevirtual 40, 3) := by decide +kernel
theorem d_T_equal_11 : decode b_T_equal 11 = .ok (.astore 4, 2) := by decide +kernel
theorem d_T_equal_13 : decode b_T_equal 13 = .ok (.aload_n 3, 1) := by decide +kernel
theorem d_T_equal_14 : decode b_T_equal 14 = .ok (.ifnull 27, 3) := by decide +kernel
theorem d_T_equal_17 : decode b_T_equal 17 = .ok (.aload 4, 2) := by decide +kernel
theorem d_T_equal_19 : decode b_T_equal 19 = .ok (.ifnull 22, 3) := by decide +kernel
theorem d_T_equal_22 : decode b_T_equal 22 = .ok (.aload_n 3, 1) := by decide +kernel
theorem d_T_equal_23 : decode b_T_equal 23 = .ok (.getfield 65, 3) := by decide +kernel
theorem d_T_equal_26 : decode b_T_equal 26 = .ok (.aload 4, 2) := by decide +kernel
theorem d_T_equal_28 : decode b_T_equal 28 = .ok (.getfield 65, 3) := by decide +kernel
theorem d_T_equal_31 : decode b_T_equal 31 = .ok (.invokevirtual 129, 3) := by decide +kernel
theorem d_T_equal_34 : decode b_T_equal 34 = .ok (.ifCond .eq 7, 3) := by decide +kernel
theorem d_T_equal_37 : decode b_T_equal 37 = .ok (.iconst 1, 1) := by decide +kernel
theorem d_T_equal_38 : decode b_T_equal 38 = .ok (.goto 4, 3) := by decide +kernel
theorem d_T_equal_41 : decode b_T_equal 41 = .ok (.iconst 0, 1) := by decide +kernel
theorem d_T_equal_42 : decode b_T_equal 42 = .ok (.ireturn, 1) := by decide +kernel
theorem d_T_batch_0 : decode b_T_batch 0 = .ok (.aload_n 0, 1) := by decide +kernel
theorem d_T_batch_1 : decode b_T_batch 1 = .ok (.iload_n 1, 1) := by decide +kernel
theorem d_T_batch_2 : decode b_T_batch 2 = .ok (.invokevirtual 40, 3) := by decide +kernel
theorem d_T_batch_5 : decode b_T_batch 5 = .ok (.astore_n 2, 1) := by decide +kernel
theorem d_T_batch_6 : decode b_T_batch 6 = .ok (.aload_n 2, 1) := by decide +kernel
theorem d_T_batch_7 : decode b_T_batch 7 = .ok (.ifnull 11, 3) := by decide +kernel
theorem d_T_batch_10 : decode b_T_batch 10 = .ok (.aload_n 2, 1) := by decide +kernel
theorem d_T_batch_11 : decode b_T_batch 11 = .ok (.getfield 133, 3) := by decide +kernel
theorem d_T_batch_14 : decode b_T_batch 14 = .ok (.iconst (-1), 1) := by decide +kernel
theorem d_T_batch_15 : decode b_T_batch 15 = .ok (.if_icmp .eq 5, 3) := by decide +kernel
theorem d_T_batch_18 : decode b_T_batch 18 = .ok (.iconst (-1), 1) := by decide +kernel
theorem d_T_batch_19 : decode b_T_batch 19 = .ok (.ireturn, 1) := by decide +kernel
theorem d_T_batch_20 : decode b_T_batch 20 = .ok (.aload_n 0, 1) := by decide +kernel
theorem d_T_batch_21 : decode b_T_batch 21 = .ok (.getfield 136, 3) := by decide +kernel
theorem d_T_batch_24 : decode b_T_batch 24 = .ok (.bipush 40, 2) := by decide +kernel
theorem d_T_batch_26 : decode b_T_batch 26 = .ok (.if_icmp .lt 6, 3) := by decide +kernel
theorem d_T_batch_29 : decode b_T_batch 29 = .ok (.bipush (-2), 2) := by decide +kernel
theorem d_T_batch_31 : decode b_T_batch 31 = .ok (.ireturn, 1) := by decide +kernel
theorem d_T_batch_32 : decode b_T_batch 32 = .ok (.aload_n 0, 1) := by decide +kernel
theorem d_T_batch_33 : decode b_T_batch 33 = .ok (.getfield 136, 3) := by decide +kernel
theorem d_T_batch_36 : decode b_T_batch 36 = .ok (.istore_n 3, 1) := by decide +kernel
theorem d_T_batch_37 : decode b_T_batch 37 = .ok (.aload_n 0, 1) := by decide +kernel
theorem d_T_batch_38 : decode b_T_batch 38 = .ok (.getfield 15, 3) := by decide +kernel
theorem d_T_batch_41 : decode b_T_batch 41 = .ok (.iload_n 3, 1) := by decide +kernel
theorem d_T_batch_42 : decode b_T_batch 42 = .ok (.iload_n 1, 1) := by decide +kernel
theorem d_T_batch_43 : decode b_T_batch 43 = .ok (.iastore, 1) := by decide +kernel
theorem d_T_batch_44 : decode b_T_batch 44 = .ok (.aload_n 0, 1) := by decide +kernel
theorem d_T_batch_45 : decode b_T_batch 45 = .ok (.dup, 1) := by decide +kernel
theorem d_T_batch_46 : decode b_T_batch 46 = .ok (.getfield 136, 3) := by decide +kernel
theorem d_T_batch_49 : decode b_T_batch 49 = .ok (.iconst 1, 1) := by decide +kernel
theorem d_T_batch_50 : decode b_T_batch 50 = .ok (.iadd, 1) := by decide +kernel
theorem d_T_batch_51 : decode b_T_batch 51 = .ok (.putfield 136, 3) := by decide +kernel
theorem d_T_batch_54 : decode b_T_batch 54 = .ok (.aload_n 2, 1) := by decide +kernel
theorem d_T_batch_55 : decode b_T_batch 55 = .ok (.iload_n 3, 1) := by decide +kernel
theorem d_T_batch_56 : decode b_T_batch 56 = .ok (.putfield 133, 3) := by decide +kernel
theorem d_T_batch_59 : decode b_T_batch 59 = .ok (.iload_n 3, 1) := by decide +kernel
theorem d_T_batch_60 : decode b_T_batch 60 = .ok (.ireturn, 1) := by decide +kernel
theorem d_T_endBatch_0 : decode b_T_endBatch 0 = .ok (.iload_n 1, 1) := by decide +kernel
theorem d_T_endBatch_1 : decode b_T_endBatch 1 = .ok (.ifCond .lt 11, 3) := by decide +kernel
theorem d_T_endBatch_4 : decode b_T_endBatch 4 = .ok (.iload_n 1, 1) := by decide +kernel
theorem d_T_endBatch_5 : decode b_T_endBatch 5 = .ok (.aload_n 0, 1) := by decide +kernel
theorem d_T_endBatch_6 : decode b_T_endBatch 6 = .ok (.getfield 136, 3) := by decide +kernel
theorem d_T_endBatch_9 : decode b_T_endBatch 9 = .ok (.if_icmp .lt 5, 3) := by decide +kernel
theorem d_T_endBatch_12 : decode b_T_endBatch 12 = .ok (.iconst 0, 1) := by decide +kernel
theorem d_T_endBatch_13 : decode b_T_endBatch 13 = .ok (.ireturn, 1) := by decide +kernel
theorem d_T_endBatch_14 : decode b_T_endBatch 14 = .ok (.aload_n 0, 1) := by decide +kernel
theorem d_T_endBatch_15 : decode b_T_endBatch 15 = .ok (.aload_n 0, 1) := by decide +kernel
theorem d_T_endBatch_16 : decode b_T_endBatch 16 = .ok (.getfield 15, 3) := by decide +kernel
theorem d_T_endBatch_19 : decode b_T_endBatch 19 = .ok (.iload_n 1, 1) := by decide +kernel
theorem d_T_endBatch_20 : decode b_T_endBatch 20 = .ok (.iaload, 1) := by decide +kernel
theorem d_T_endBatch_21 : decode b_T_endBatch 21 = .ok (.invokevirtual 40, 3) := by decide +kernel
theorem d_T_endBatch_24 : decode b_T_endBatch 24 = .ok (.astore_n 2, 1) := by decide +kernel
theorem d_T_endBatch_25 : decode b_T_endBatch 25 = .ok (.aload_n 2, 1) := by decide +kernel
theorem d_T_endBatch_26 : decode b_T_endBatch 26 = .ok (.ifnull 11, 3) := by decide +kernel
theorem d_T_endBatch_29 : decode b_T_endBatch 29 = .ok (.aload_n 2, 1) := by decide +kernel
theorem d_T_endBatch_30 : decode b_T_endBatch 30 = .ok (.getfield 133, 3) := by decide +kernel
theorem d_T_endBatch_33 : decode b_T_endBatch 33 = .ok (.iload_n 1, 1) := by decide +kernel
theorem d_T_endBatch_34 : decode b_T_endBatch 34 = .ok (.if_icmp .eq 5, 3) := by decide +kernel
theorem d_T_endBatch_37 : decode b_T_endBatch 37 = .ok (.iconst 0, 1) := by decide +kernel
theorem d_T_endBatch_38 : decode b_T_endBatch 38 = .ok (.ireturn, 1) := by decide +kernel
theorem d_T_endBatch_39 : decode b_T_endBatch 39 = .ok (.aload_n 2, 1) := by decide +kernel
theorem d_T_endBatch_40 : decode b_T_endBatch 40 = .ok (.invokevirtual 139, 3) := by decide +kernel
theorem d_T_endBatch_43 : decode b_T_endBatch 43 = .ok (.iconst 1, 1) := by decide +kernel
theorem d_T_endBatch_44 : decode b_T_endBatch 44 = .ok (.ireturn, 1) := by decide +kernel
theorem d_T_play_0 : decode b_T_play 0 = .ok (.aload_n 0, 1) := by decide +kernel
theorem d_T_play_1 : decode b_T_play 1 = .ok (.getfield 33, 3) := by decide +kernel
theorem d_T_play_4 : decode b_T_play 4 = .ok (.iconst 1, 1) := by decide +kernel
theorem d_T_play_5 : decode b_T_play 5 = .ok (.if_icmp .lt 14, 3) := by decide +kernel
theorem d_T_play_8 : decode b_T_play 8 = .ok (.iload_n 3, 1) := by decide +kernel
theorem d_T_play_9 : decode b_T_play 9 = .ok (.ifCond .lt 10, 3) := by decide +kernel
theorem d_T_play_12 : decode b_T_play 12 = .ok (.iload_n 3, 1) := by decide +kernel
theorem d_T_play_13 : decode b_T_play 13 = .ok (.sipush 200, 3) := by decide +kernel
theorem d_T_play_16 : decode b_T_play 16 = .ok (.if_icmp .le 5, 3) := by decide +kernel
theorem d_T_play_19 : decode b_T_play 19 = .ok (.iconst (-1), 1) := by decide +kernel
theorem d_T_play_20 : decode b_T_play 20 = .ok (.ireturn, 1) := by decide +kernel
