theorem d_A_init_0 : decode b_A_init 0 = .ok (.aload_n 0, 1) := by decide +kernel
theorem d_A_init_1 : decode b_A_init 1 = .ok (.invokespecial 3, 3) := by decide +kernel
theorem d_A_init_4 : decode b_A_init 4 = .ok (.aload_n 0, 1) := by decide +kernel
theorem d_A_init_5 : decode b_A_init 5 = .ok (.sipush 300, 3) := by decide +kernel
theorem d_A_init_8 : decode b_A_init 8 = .ok (.newarray .int, 2) := by decide +kernel
theorem d_A_init_10 : decode b_A_init 10 = .ok (.putfield 9, 3) := by decide +kernel
theorem d_A_init_13 : decode b_A_init 13 = .ok (.aload_n 0, 1) := by decide +kernel
theorem d_A_init_14 : decode b_A_init 14 = .ok (.sipush 300, 3) := by decide +kernel
theorem d_A_init_17 : decode b_A_init 17 = .ok (.newarray .int, 2) := by decide +kernel
theorem d_A_init_19 : decode b_A_init 19 = .ok (.putfield 15, 3) := by decide +kernel
theorem d_A_init_22 : decode b_A_init 22 = .ok (.aload_n 0, 1) := by decide +kernel
theorem d_A_init_23 : decode b_A_init 23 = .ok (.sipush 300, 3) := by decide +kernel
theorem d_A_init_26 : decode b_A_init 26 = .ok (.newarray .long, 2) := by decide +kernel
theorem d_A_init_28 : decode b_A_init 28 = .ok (.putfield 18, 3) := by decide +kernel
theorem d_A_init_31 : decode b_A_init 31 = .ok (.aload_n 0, 1) := by decide +kernel
theorem d_A_init_32 : decode b_A_init 32 = .ok (.sipush 300, 3) := by decide +kernel
theorem d_A_init_35 : decode b_A_init 35 = .ok (.newarray .int, 2) := by decide +kernel
theorem d_A_init_37 : decode b_A_init 37 = .ok (.putfield 22, 3) := by decide +kernel
theorem d_A_init_40 : decode b_A_init 40 = .ok (.aload_n 0, 1) := by decide +kernel
theorem d_A_init_41 : decode b_A_init 41 = .ok (.sipush 1500, 3) := by decide +kernel
theorem d_A_init_44 : decode b_A_init 44 = .ok (.newarray .long, 2) := by decide +kernel
theorem d_A_init_46 : decode b_A_init 46 = .ok (.putfield 27, 3) := by decide +kernel
theorem d_A_init_49 : decode b_A_init 49 = .ok (.aload_n 0, 1) := by decide +kernel
theorem d_A_init_50 : decode b_A_init 50 = .ok (.sipush 300, 3) := by decide +kernel
theorem d_A_init_53 : decode b_A_init 53 = .ok (.newarray .int, 2) := by decide +kernel
theorem d_A_init_55 : decode b_A_init 55 = .ok (.putfield 30, 3) := by decide +kernel
theorem d_A_init_58 : decode b_A_init 58 = .ok (.aload_n 0, 1) := by decide +kernel
theorem d_A_init_59 : decode b_A_init 59 = .ok (.sipush 300, 3) := by decide +kernel
theorem d_A_init_62 : decode b_A_init 62 = .ok (.newarray .int, 2) := by decide +kernel
theorem d_A_init_64 : decode b_A_init 64 = .ok (.putfield 33, 3) := by decide +kernel
theorem d_A_init_67 : decode b_A_init 67 = .ok (.return_, 1) := by decide +kernel
theorem d_A_append_0 : decode b_A_append 0 = .ok (.aload_n 0, 1) := by decide +kernel
theorem d_A_append_1 : decode b_A_append 1 = .ok (.getfield 36, 3) := by decide +kernel
theorem d_A_append_4 : decode b_A_append 4 = .ok (.sipush 300, 3) := by decide +kernel
theorem d_A_append_7 : decode b_A_append 7 = .ok (.if_icmp .lt 5, 3) := by decide +kernel
theorem d_A_append_10 : decode b_A_append 10 = .ok (.iconst (-1), 1) := by decide +kernel
theorem d_A_append_11 : decode b_A_append 11 = .ok (.ireturn, 1) := by decide +kernel
theorem d_A_append_12 : decode b_A_append 12 = .ok (.aload_n 0, 1) := by decide +kernel
theorem d_A_append_13 : decode b_A_append 13 = .ok (.getfield 36, 3) := by decide +kernel
theorem d_A_append_16 : decode b_A_append 16 = .ok (.istore 7, 2) := by decide +kernel
theorem d_A_append_18 : decode b_A_append 18 = .ok (.aload_n 0, 1) := by decide +kernel
theorem d_A_append_19 : decode b_A_append 19 = .ok (.getfield 9, 3) := by decide +kernel
theorem d_A_append_22 : decode b_A_append 22 = .ok (.iload 7, 2) := by decide +kernel
theorem d_A_append_24 : decode b_A_append 24 = .ok (.iload_n 1, 1) := by decide +kernel
theorem d_A_append_25 : decode b_A_append 25 = .ok (.iastore, 1) := by decide +kernel
theorem d_A_append_26 : decode b_A_append 26 = .ok (.aload_n 0, 1) := by decide +kernel
theorem d_A_append_27 : decode b_A_append 27 = .ok (.getfield 15, 3) := by decide +kernel
theorem d_A_append_30 : decode b_A_append 30 = .ok (.iload 7, 2) := by decide +kernel
theorem d_A_append_32 : decode b_A_append 32 = .ok (.iload_n 2, 1) := by decide +kernel
theorem d_A_append_33 : decode b_A_append 33 = .ok (.iastore, 1) := by decide +kernel
theorem d_A_append_34 : decode b_A_append 34 = .ok (.aload_n 0, 1) := by decide +kernel
theorem d_A_append_35 : decode b_A_append 35 = .ok (.getfield 18, 3) := by decide +kernel
theorem d_A_append_38 : decode b_A_append 38 = .ok (.iload 7, 2) := by decide +kernel
theorem d_A_append_40 : decode b_A_append 40 = .ok (.lload_n 3, 1) := by decide +kernel
theorem d_A_append_41 : decode b_A_append 41 = .ok (.lastore, 1) := by decide +kernel
theorem d_A_append_42 : decode b_A_append 42 = .ok (.aload_n 0, 1) := by decide +kernel
theorem d_A_append_43 : decode b_A_append 43 = .ok (.getfield 22, 3) := by decide +kernel
theorem d_A_append_46 : decode b_A_append 46 = .ok (.iload 7, 2) := by decide +kernel
theorem d_A_append_48 : decode b_A_append 48 = .ok (.iload 5, 2) := by decide +kernel
theorem d_A_append_50 : decode b_A_append 50 = .ok (.iastore, 1) := by decide +kernel
theorem d_A_append_51 : decode b_A_append 51 = .ok (.iconst 0, 1) := by decide +kernel
theorem d_A_append_52 : decode b_A_append 52 = .ok (.istore 8, 2) := by decide +kernel
theorem d_A_append_54 : decode b_A_append 54 = .ok (.iload 8, 2) := by decide +kernel
theorem d_A_append_56 : decode b_A_append 56 = .ok (.iload 7, 2) := by decide +kernel
theorem d_A_append_58 : decode b_A_append 58 = .ok (.if_icmp .ge 44, 3) := by decide +kernel
theorem d_A_append_61 : decode b_A_append 61 = .ok (.aload 6, 2) := by decide +kernel
theorem d_A_append_63 : decode b_A_append 63 = .ok (.iload 8, 2) := by decide +kernel
theorem d_A_append_65 : decode b_A_append 65 = .ok (.invokevirtual 40, 3) := by decide +kernel
theorem d_A_append_68 : decode b_A_append 68 = .ok (.ifCond .eq 28, 3) := by decide +kernel
theorem d_A_append_71 : decode b_A_append 71 = .ok (.aload_n 0, 1) := by decide +kernel
theorem d_A_append_72 : decode b_A_append 72 = .ok (.getfield 27, 3) := by decide +kernel
theorem d_A_append_75 : decode b_A_append 75 = .ok (.iload 8, 2) := by decide +kernel
theorem d_A_append_77 : decode b_A_append 77 = .ok (.iconst 5, 1) := by decide +kernel
theorem d_A_append_78 : decode b_A_append 78 = .ok (.imul, 1) := by decide +kernel
theorem d_A_append_79 : decode b_A_append 79 = .ok (.iload 7, 2) := by decide +kernel
theorem d_A_append_81 : decode b_A_append 81 = .ok (.bipush 64, 2) := by decide +kernel
theorem d_A_append_83 : decode b_A_append 83 = .ok (.idiv, 1) := by decide +kernel
theorem d_A_append_84 : decode b_A_append 84 = .ok (.iadd, 1) := by decide +kernel
theorem d_A_append_85 : decode b_A_append 85 = .ok (.dup2, 1) := by decide +kernel
theorem d_A_append_86 : decode b_A_append 86 = .ok (.laload, 1) := by decide +kernel
theorem d_A_append_87 : decode b_A_append 87 = .ok (.lconst 1, 1) := by decide +kernel
theorem d_A_append_88 : decode b_A_append 88 = .ok (.iload 7, 2) := by decide +kernel
theorem d_A_append_90 : decode b_A_append 90 = .ok (.bipush 64, 2) := by decide +kernel
theorem d_A_append_92 : decode b_A_append 92 = .ok (.irem, 1) := by decide +kernel
theorem d_A_append_93 : decode b_A_append 93 = .ok (.lshl, 1) := by decide +kernel
theorem d_A_append_94 : decode b_A_append 94 = .ok (.lor, 1) := by decide +kernel
theorem d_A_append_95 : decode b_A_append 95 = .ok (.lastore, 1) := by decide +kernel
theorem d_A_append_96 : decode b_A_append 96 = .ok (.iinc 8 1, 3) := by decide +kernel
theorem d_A_append_99 : decode b_A_append 99 = .ok (.goto (-45), 3) := by decide +kernel
theorem d_A_append_102 : decode b_A_append 102 = .ok (.aload_n 0, 1) := by decide +kernel
theorem d_A_append_103 : decode b_A_append 103 = .ok (.getfield 30, 3) := by decide +kernel
theorem d_A_append_106 : decode b_A_append 106 = .ok (.aload_n 0, 1) := by decide +kernel
theorem d_A_append_107 : decode b_A_append 107 = .ok (.getfield 9, 3) := by decide +kernel
theorem d_A_append_110 : decode b_A_append 110 = .ok (.iload 7, 2) := by decide +kernel
theorem d_A_append_112 : decode b_A_append 112 = .ok (.invokestatic 44, 3) := by decide +kernel
theorem d_A_append_115 : decode b_A_append 115 = .ok (.aload_n 0, 1) := by decide +kernel
theorem d_A_append_116 : decode b_A_append 116 = .ok (.getfield 33, 3) := by decide +kernel
theorem d_A_append_119 : decode b_A_append 119 = .ok (.aload_n 0, 1) := by decide +kernel
theorem d_A_append_120 : decode b_A_append 120 = .ok (.getfield 15, 3) := by decide +kernel
theorem d_A_append_123 : decode b_A_append 123 = .ok (.iload 7, 2) := by decide +kernel
theorem d_A_append_125 : decode b_A_append 125 = .ok (.invokestatic 44, 3) := by decide +kernel
theorem d_A_append_128 : decode b_A_append 128 = .ok (.aload_n 0, 1) := by decide +kernel
theorem d_A_append_129 : decode b_A_append 129 = .ok (.dup, 1) := by decide +kernel
theorem d_A_append_130 : decode b_A_append 130 = .ok (.getfield 36, 3) := by decide +kernel
theorem d_A_append_133 : decode b_A_append 133 = .ok (.iconst 1, 1) := by decide +kernel
theorem d_A_append_134 : decode b_A_append 134 = .ok (.iadd, 1) := by decide +kernel
theorem d_A_append_135 : decode b_A_append 135 = .ok (.putfield 36, 3) := by decide +kernel
theorem d_A_append_138 : decode b_A_append 138 = .ok (.iload 7, 2) := by decide +kernel
theorem d_A_append_140 : decode b_A_append 140 = .ok (.ireturn, 1) := by decide +kernel
theorem d_A_insertByKey_0 : decode b_A_insertByKey 0 = .ok (.iload_n 2, 1) := by decide +kernel
theorem d_A_insertByKey_1 : decode b_A_insertByKey 1 = .ok (.istore_n 3, 1) := by decide +kernel
theorem d_A_insertByKey_2 : decode b_A_insertByKey 2 = .ok (.iload_n 3, 1) := by decide +kernel
theorem d_A_insertByKey_3 : decode b_A_insertByKey 3 = .ok (.ifCond .le 30, 3) := by decide +kernel
theorem d_A_insertByKey_6 : decode b_A_insertByKey 6 = .ok (.aload_n 1, 1) := by decide +kernel
theorem d_A_insertByKey_7 : decode b_A_insertByKey 7 = .ok (.aload_n 0, 1) := by decide +kernel
theorem d_A_insertByKey_8 : decode b_A_insertByKey 8 = .ok (.iload_n 3, 1) := by decide +kernel
theorem d_A_insertByKey_9 : decode b_A_insertByKey 9 = .ok (.iconst 1, 1) := by decide +kernel
theorem d_A_insertByKey_10 : decode b_A_insertByKey 10 = .ok (.isub, 1) := by decide +kernel
theorem d_A_insertByKey_11 : decode b_A_insertByKey 11 = .ok (.iaload, 1) := by decide +kernel
theorem d_A_insertByKey_12 : decode b_A_insertByKey 12 = .ok (.iaload, 1) := by decide +kernel
theorem d_A_insertByKey_13 : decode b_A_insertByKey 13 = .ok (.aload_n 1, 1) := by decide +kernel
theorem d_A_insertByKey_14 : decode b_A_insertByKey 14 = .ok (.iload_n 2, 1) := by decide +kernel
theorem d_A_insertByKey_15 : decode b_A_insertByKey 15 = .ok (.iaload, 1) := by decide +kernel
theorem d_A_insertByKey_16 : decode b_A_insertByKey 16 = .ok (.if_icmp .le 17, 3) := by decide +kernel
theorem d_A_insertByKey_19 : decode b_A_insertByKey 19 = .ok (.aload_n 0, 1) := by decide +kernel
theorem d_A_insertByKey_20 : decode b_A_insertByKey 20 = .ok (.iload_n 3, 1) := by decide +kernel
theorem d_A_insertByKey_21 : decode b_A_insertByKey 21 = .ok (.aload_n 0, 1) := by decide +kernel
theorem d_A_insertByKey_22 : decode b_A_insertByKey 22 = .ok (.iload_n 3, 1) := by decide +kernel
theorem d_A_insertByKey_23 : decode b_A_insertByKey 23 = .ok (.iconst 1, 1) := by decide +kernel
theorem d_A_insertByKey_24 : decode b_A_insertByKey 24 = .ok (.isub, 1) := by decide +kernel
theorem d_A_insertByKey_25 : decode b_A_insertByKey 25 = .ok (.iaload, 1) := by decide +kernel
theorem d_A_insertByKey_26 : decode b_A_insertByKey 26 = .ok (.iastore, 1) := by decide +kernel
theorem d_A_insertByKey_27 : decode b_A_insertByKey 27 = .ok (.iinc 3 (-1), 3) := by decide +kernel
theorem d_A_insertByKey_30 : decode b_A_insertByKey 30 = .ok (.goto (-28), 3) := by decide +kernel
theorem d_A_insertByKey_33 : decode b_A_insertByKey 33 = .ok (.aload_n 0, 1) := by decide +kernel
theorem d_A_insertByKey_34 : decode b_A_insertByKey 34 = .ok (.iload_n 3, 1) := by decide +kernel
theorem d_A_insertByKey_35 : decode b_A_insertByKey 35 = .ok (.iload_n 2, 1) := by decide +kernel
theorem d_A_insertByKey_36 : decode b_A_insertByKey 36 = .ok (.iastore, 1) := by decide +kernel
theorem d_A_insertByKey_37 : decode b_A_insertByKey 37 = .ok (.return_, 1) := by decide +kernel
theorem d_A_withNumber_0 : decode b_A_withNumber 0 = .ok (.iconst 0, 1) := by decide +kernel
theorem d_A_withNumber_1 : decode b_A_withNumber 1 = .ok (.istore_n 2, 1) := by decide +kernel
theorem d_A_withNumber_2 : decode b_A_withNumber 2 = .ok (.iload_n 2, 1) := by decide +kernel
theorem d_A_withNumber_3 : decode b_A_withNumber 3 = .ok (.aload_n 0, 1) := by decide +kernel
theorem d_A_withNumber_4 : decode b_A_withNumber 4 = .ok (.getfield 36, 3) := by decide +kernel
theorem d_A_withNumber_7 : decode b_A_withNumber 7 = .ok (.if_icmp .ge 21, 3) := by decide +kernel
theorem d_A_withNumber_10 : decode b_A_withNumber 10 = .ok (.aload_n 0, 1) := by decide +kernel
theorem d_A_withNumber_11 : decode b_A_withNumber 11 = .ok (.getfield 9, 3) := by decide +kernel
theorem d_A_withNumber_14 : decode b_A_withNumber 14 = .ok (.iload_n 2, 1) := by decide +kernel
theorem d_A_withNumber_15 : decode b_A_withNumber 15 = .ok (.iaload, 1) := by decide +kernel
theorem d_A_withNumber_16 : decode b_A_withNumber 16 = .ok (.iload_n 1, 1) := by decide +kernel
theorem d_A_withNumber_17 : decode b_A_withNumber 17 = .ok (.if_icmp .ne 5, 3) := by decide +kernel
theorem d_A_withNumber_20 : decode b_A_withNumber 20 = .ok (.iload_n 2, 1) := by decide +kernel
theorem d_A_withNumber_21 : decode b_A_withNumber 21 = .ok (.ireturn, 1) := by decide +kernel
theorem d_A_withNumber_22 : decode b_A_withNumber 22 = .ok (.iinc 2 1, 3) := by decide +kernel
theorem d_A_withNumber_25 : decode b_A_withNumber 25 = .ok (.goto (-23), 3) := by decide +kernel
theorem d_A_withNumber_28 : decode b_A_withNumber 28 = .ok (.iconst (-1), 1) := by decide +kernel
theorem d_A_withNumber_29 : decode b_A_withNumber 29 = .ok (.ireturn, 1) := by decide +kernel
theorem d_A_inOrder_0 : decode b_A_inOrder 0 = .ok (.iconst 0, 1) := by decide +kernel
theorem d_A_inOrder_1 : decode b_A_inOrder 1 = .ok (.istore_n 3, 1) := by decide +kernel
theorem d_A_inOrder_2 : decode b_A_inOrder 2 = .ok (.iconst 0, 1) := by decide +kernel
theorem d_A_inOrder_3 : decode b_A_inOrder 3 = .ok (.istore 4, 2) := by decide +kernel
theorem d_A_inOrder_5 : decode b_A_inOrder 5 = .ok (.iload 4, 2) := by decide +kernel
theorem d_A_inOrder_7 : decode b_A_inOrder 7 = .ok (.aload_n 0, 1) := by decide +kernel
theorem d_A_inOrder_8 : decode b_A_inOrder 8 = .ok (.getfield 36, 3) := by decide +kernel
theorem d_A_inOrder_11 : decode b_A_inOrder 11 = .ok (.if_icmp .ge 38, 3) := by decide +kernel
theorem d_A_inOrder_14 : decode b_A_inOrder 14 = .ok (.aload_n 0, 1) := by decide +kernel
theorem d_A_inOrder_15 : decode b_A_inOrder 15 = .ok (.getfield 30, 3) := by decide +kernel
theorem d_A_inOrder_18 : decode b_A_inOrder 18 = .ok (.iload 4, 2) := by decide +kernel
theorem d_A_inOrder_20 : decode b_A_inOrder 20 = .ok (.iaload, 1) := by decide +kernel
theorem d_A_inOrder_21 : decode b_A_inOrder 21 = .ok (.istore 5, 2) := by decide +kernel
theorem d_A_inOrder_23 : decode b_A_inOrder 23 = .ok (.aload_n 1, 1) := by decide +kernel
theorem d_A_inOrder_24 : decode b_A_inOrder 24 = .ok (.iload 5, 2) := by decide +kernel
theorem d_A_inOrder_26 : decode b_A_inOrder 26 = .ok (.invokevirtual 40, 3) := by decide +kernel
theorem d_A_inOrder_29 : decode b_A_inOrder 29 = .ok (.ifCond .eq 14, 3) := by decide +kernel
theorem d_A_inOrder_32 : decode b_A_inOrder 32 = .ok (.iload_n 3, 1) := by decide +kernel
theorem d_A_inOrder_33 : decode b_A_inOrder 33 = .ok (.iload_n 2, 1) := by decide +kernel
theorem d_A_inOrder_34 : decode b_A_inOrder 34 = .ok (.if_icmp .ne 6, 3) := by decide +kernel
theorem d_A_inOrder_37 : decode b_A_inOrder 37 = .ok (.iload 5, 2) := by decide +kernel
theorem d_A_inOrder_39 : decode b_A_inOrder 39 = .ok (.ireturn, 1) := by decide +kernel
theorem d_A_inOrder_40 : decode b_A_inOrder 40 = .ok (.iinc 3 1, 3) := by decide +kernel
theorem d_A_inOrder_43 : decode b_A_inOrder 43 = .ok (.iinc 4 1, 3) := by decide +kernel
theorem d_A_inOrder_46 : decode b_A_inOrder 46 = .ok (.goto (-41), 3) := by decide +kernel
theorem d_A_inOrder_49 : decode b_A_inOrder 49 = .ok (.iconst (-1), 1) := by decide +kernel
theorem d_A_inOrder_50 : decode b_A_inOrder 50 = .ok (.ireturn, 1) := by decide +kernel
theorem d_A_standsAmong_0 : decode b_A_standsAmong 0 = .ok (.aload_n 1, 1) := by decide +kernel
theorem d_A_standsAmong_1 : decode b_A_standsAmong 1 = .ok (.iload_n 2, 1) := by decide +kernel
theorem d_A_standsAmong_2 : decode b_A_standsAmong 2 = .ok (.invokevirtual 40, 3) := by decide +kernel
theorem d_A_standsAmong_5 : decode b_A_standsAmong 5 = .ok (.ifCond .ne 5, 3) := by decide +kernel
theorem d_A_standsAmong_8 : decode b_A_standsAmong 8 = .ok (.iconst 0, 1) := by decide +kernel
theorem d_A_standsAmong_9 : decode b_A_standsAmong 9 = .ok (.ireturn, 1) := by decide +kernel
theorem d_A_standsAmong_10 : decode b_A_standsAmong 10 = .ok (.iconst 0, 1) := by decide +kernel
theorem d_A_standsAmong_11 : decode b_A_standsAmong 11 = .ok (.istore_n 3, 1) := by decide +kernel
theorem d_A_standsAmong_12 : decode b_A_standsAmong 12 = .ok (.iload_n 3, 1) := by decide +kernel
theorem d_A_standsAmong_13 : decode b_A_standsAmong 13 = .ok (.iconst 5, 1) := by decide +kernel
theorem d_A_standsAmong_14 : decode b_A_standsAmong 14 = .ok (.if_icmp .ge 33, 3) := by decide +kernel
theorem d_A_standsAmong_17 : decode b_A_standsAmong 17 = .ok (.aload_n 0, 1) := by decide +kernel
theorem d_A_standsAmong_18 : decode b_A_standsAmong 18 = .ok (.getfield 27, 3) := by decide +kernel
theorem d_A_standsAmong_21 : decode b_A_standsAmong 21 = .ok (.iload_n 2, 1) := by decide +kernel
theorem d_A_standsAmong_22 : decode b_A_standsAmong 22 = .ok (.iconst 5, 1) := by decide +kernel
theorem d_A_standsAmong_23 : decode b_A_standsAmong 23 = .ok (.imul, 1) := by decide +kernel
theorem d_A_standsAmong_24 : decode b_A_standsAmong 24 = .ok (.iload_n 3, 1) := by decide +kernel
theorem d_A_standsAmong_25 : decode b_A_standsAmong 25 = .ok (.iadd, 1) := by decide +kernel
theorem d_A_standsAmong_26 : decode b_A_standsAmong 26 = .ok (.laload, 1) := by decide +kernel
theorem d_A_standsAmong_27 : decode b_A_standsAmong 27 = .ok (.aload_n 1, 1) := by decide +kernel
theorem d_A_standsAmong_28 : decode b_A_standsAmong 28 = .ok (.getfield 48, 3) := by decide +kernel
theorem d_A_standsAmong_31 : decode b_A_standsAmong 31 = .ok (.iload_n 3, 1) := by decide +kernel
theorem d_A_standsAmong_32 : decode b_A_standsAmong 32 = .ok (.laload, 1) := by decide +kernel
theorem d_A_standsAmong_33 : decode b_A_standsAmong 33 = .ok (.land, 1) := by decide +kernel
theorem d_A_standsAmong_34 : decode b_A_standsAmong 34 = .ok (.lconst 0, 1) := by decide +kernel
theorem d_A_standsAmong_35 : decode b_A_standsAmong 35 = .ok (.lcmp, 1) := by decide +kernel
theorem d_A_standsAmong_36 : decode b_A_standsAmong 36 = .ok (.ifCond .eq 5, 3) := by decide +kernel
theorem d_A_standsAmong_39 : decode b_A_standsAmong 39 = .ok (.iconst 0, 1) := by decide +kernel
theorem d_A_standsAmong_40 : decode b_A_standsAmong 40 = .ok (.ireturn, 1) := by decide +kernel
theorem d_A_standsAmong_41 : decode b_A_standsAmong 41 = .ok (.iinc 3 1, 3) := by decide +kernel
theorem d_A_standsAmong_44 : decode b_A_standsAmong 44 = .ok (.goto (-32), 3) := by decide +kernel
theorem d_A_standsAmong_47 : decode b_A_standsAmong 47 = .ok (.iconst 1, 1) := by decide +kernel
theorem d_A_standsAmong_48 : decode b_A_standsAmong 48 = .ok (.ireturn, 1) := by decide +kernel
theorem d_A_pickStanding_0 : decode b_A_pickStanding 0 = .ok (.aload_n 3, 1) := by decide +kernel
theorem d_A_pickStanding_1 : decode b_A_pickStanding 1 = .ok (.invokevirtual 51, 3) := by decide +kernel
theorem d_A_pickStanding_4 : decode b_A_pickStanding 4 = .ok (.iconst 0, 1) := by decide +kernel
theorem d_A_pickStanding_5 : decode b_A_pickStanding 5 = .ok (.istore 4, 2) := by decide +kernel
theorem d_A_pickStanding_7 : decode b_A_pickStanding 7 = .ok (.iload 4, 2) := by decide +kernel
theorem d_A_pickStanding_9 : decode b_A_pickStanding 9 = .ok (.aload_n 0, 1) := by decide +kernel
theorem d_A_pickStanding_10 : decode b_A_pickStanding 10 = .ok (.getfield 36, 3) := by decide +kernel
theorem d_A_pickStanding_13 : decode b_A_pickStanding 13 = .ok (.if_icmp .ge 36, 3) := by decide +kernel
theorem d_A_pickStanding_16 : decode b_A_pickStanding 16 = .ok (.aload_n 0, 1) := by decide +kernel
theorem d_A_pickStanding_17 : decode b_A_pickStanding 17 = .ok (.getfield 15, 3) := by decide +kernel
theorem d_A_pickStanding_20 : decode b_A_pickStanding 20 = .ok (.iload 4, 2) := by decide +kernel
theorem d_A_pickStanding_22 : decode b_A_pickStanding 22 = .ok (.iaload, 1) := by decide +kernel
theorem d_A_pickStanding_23 : decode b_A_pickStanding 23 = .ok (.iload_n 2, 1) := by decide +kernel
theorem d_A_pickStanding_24 : decode b_A_pickStanding 24 = .ok (.if_icmp .ne 19, 3) := by decide +kernel
theorem d_A_pickStanding_27 : decode b_A_pickStanding 27 = .ok (.aload_n 0, 1) := by decide +kernel
theorem d_A_pickStanding_28 : decode b_A_pickStanding 28 = .ok (.aload_n 1, 1) := by decide +kernel
theorem d_A_pickStanding_29 : decode b_A_pickStanding 29 = .ok (.iload 4, 2) := by decide +kernel
theorem d_A_pickStanding_31 : decode b_A_pickStanding 31 = .ok (.invokevirtual 54, 3) := by decide +kernel
theorem d_A_pickStanding_34 : decode b_A_pickStanding 34 = .ok (.ifCond .eq 9, 3) := by decide +kernel
theorem d_A_pickStanding_37 : decode b_A_pickStanding 37 = .ok (.aload_n 3, 1) := by decide +kernel
theorem d_A_pickStanding_38 : decode b_A_pickStanding 38 = .ok (.iload 4, 2) := by decide +kernel
theorem d_A_pickStanding_40 : decode b_A_pickStanding 40 = .ok (.invokevirtual 58, 3) := by decide +kernel
theorem d_A_pickStanding_43 : decode b_A_pickStanding 43 = .ok (.iinc 4 1, 3) := by decide +kernel
theorem d_A_pickStanding_46 : decode b_A_pickStanding 46 = .ok (.goto (-39), 3) := by decide +kernel
theorem d_A_pickStanding_49 : decode b_A_pickStanding 49 = .ok (.return_, 1) := by decide +kernel
theorem d_A_pickToldBy_0 : decode b_A_pickToldBy 0 = .ok (.aload 4, 2) := by decide +kernel
theorem d_A_pickToldBy_2 : decode b_A_pickToldBy 2 = .ok (.invokevirtual 51, 3) := by decide +kernel
theorem d_A_pickToldBy_5 : decode b_A_pickToldBy 5 = .ok (.iconst 0, 1) := by decide +kernel
theorem d_A_pickToldBy_6 : decode b_A_pickToldBy 6 = .ok (.istore 5, 2) := by decide +kernel
theorem d_A_pickToldBy_8 : decode b_A_pickToldBy 8 = .ok (.iload 5, 2) := by decide +kernel
theorem d_A_pickToldBy_10 : decode b_A_pickToldBy 10 = .ok (.aload_n 0, 1) := by decide +kernel
theorem d_A_pickToldBy_11 : decode b_A_pickToldBy 11 = .ok (.getfield 36, 3) := by decide +kernel
theorem d_A_pickToldBy_14 : decode b_A_pickToldBy 14 = .ok (.if_icmp .ge 38, 3) := by decide +kernel
theorem d_A_pickToldBy_17 : decode b_A_pickToldBy 17 = .ok (.aload_n 0, 1) := by decide +kernel
theorem d_A_pickToldBy_18 : decode b_A_pickToldBy 18 = .ok (.getfield 22, 3) := by decide +kernel
theorem d_A_pickToldBy_21 : decode b_A_pickToldBy 21 = .ok (.iload 5, 2) := by decide +kernel
theorem d_A_pickToldBy_23 : decode b_A_pickToldBy 23 = .ok (.iaload, 1) := by decide +kernel
theorem d_A_pickToldBy_24 : decode b_A_pickToldBy 24 = .ok (.i2l, 1) := by decide +kernel
theorem d_A_pickToldBy_25 : decode b_A_pickToldBy 25 = .ok (.lload_n 1, 1) := by decide +kernel
theorem d_A_pickToldBy_26 : decode b_A_pickToldBy 26 = .ok (.lcmp, 1) := by decide +kernel
theorem d_A_pickToldBy_27 : decode b_A_pickToldBy 27 = .ok (.ifCond .gt 19, 3) := by decide +kernel
theorem d_A_pickToldBy_30 : decode b_A_pickToldBy 30 = .ok (.aload_n 3, 1) := by decide +kernel
theorem d_A_pickToldBy_31 : decode b_A_pickToldBy 31 = .ok (.iload 5, 2) := by decide +kernel
theorem d_A_pickToldBy_33 : decode b_A_pickToldBy 33 = .ok (.invokevirtual 40, 3) := by decide +kernel
theorem d_A_pickToldBy_36 : decode b_A_pickToldBy 36 = .ok (.ifCond .eq 10, 3) := by decide +kernel
theorem d_A_pickToldBy_39 : decode b_A_pickToldBy 39 = .ok (.aload 4, 2) := by decide +kernel
theorem d_A_pickToldBy_41 : decode b_A_pickToldBy 41 = .ok (.iload 5, 2) := by decide +kernel
theorem d_A_pickToldBy_43 : decode b_A_pickToldBy 43 = .ok (.invokevirtual 58, 3) := by decide +kernel
theorem d_A_pickToldBy_46 : decode b_A_pickToldBy 46 = .ok (.iinc 5 1, 3) := by decide +kernel
theorem d_A_pickToldBy_49 : decode b_A_pickToldBy 49 = .ok (.goto (-41), 3) := by decide +kernel
theorem d_A_pickToldBy_52 : decode b_A_pickToldBy 52 = .ok (.return_, 1) := by decide +kernel
theorem d_A_pickEqual_0 : decode b_A_pickEqual 0 = .ok (.aload 5, 2) := by decide +kernel
theorem d_A_pickEqual_2 : decode b_A_pickEqual 2 = .ok (.invokevirtual 51, 3) := by decide +kernel
theorem d_A_pickEqual_5 : decode b_A_pickEqual 5 = .ok (.iconst 0, 1) := by decide +kernel
theorem d_A_pickEqual_6 : decode b_A_pickEqual 6 = .ok (.istore 6, 2) := by decide +kernel
theorem d_A_pickEqual_8 : decode b_A_pickEqual 8 = .ok (.iload 6, 2) := by decide +kernel
theorem d_A_pickEqual_10 : decode b_A_pickEqual 10 = .ok (.aload_n 0, 1) := by decide +kernel
theorem d_A_pickEqual_11 : decode b_A_pickEqual 11 = .ok (.getfield 36, 3) := by decide +kernel
theorem d_A_pickEqual_14 : decode b_A_pickEqual 14 = .ok (.if_icmp .ge 51, 3) := by decide +kernel
theorem d_A_pickEqual_17 : decode b_A_pickEqual 17 = .ok (.aload_n 0, 1) := by decide +kernel
theorem d_A_pickEqual_18 : decode b_A_pickEqual 18 = .ok (.getfield 18, 3) := by decide +kernel
theorem d_A_pickEqual_21 : decode b_A_pickEqual 21 = .ok (.iload 6, 2) := by decide +kernel
theorem d_A_pickEqual_23 : decode b_A_pickEqual 23 = .ok (.laload, 1) := by decide +kernel
theorem d_A_pickEqual_24 : decode b_A_pickEqual 24 = .ok (.lload_n 3, 1) := by decide +kernel
theorem d_A_pickEqual_25 : decode b_A_pickEqual 25 = .ok (.lcmp, 1) := by decide +kernel
theorem d_A_pickEqual_26 : decode b_A_pickEqual 26 = .ok (.ifCond .ne 33, 3) := by decide +kernel
theorem d_A_pickEqual_29 : decode b_A_pickEqual 29 = .ok (.aload_n 0, 1) := by decide +kernel
theorem d_A_pickEqual_30 : decode b_A_pickEqual 30 = .ok (.getfield 15, 3) := by decide +kernel
theorem d_A_pickEqual_33 : decode b_A_pickEqual 33 = .ok (.iload 6, 2) := by decide +kernel
theorem d_A_pickEqual_35 : decode b_A_pickEqual 35 = .ok (.iaload, 1) := by decide +kernel
theorem d_A_pickEqual_36 : decode b_A_pickEqual 36 = .ok (.invokestatic 62, 3) := by decide +kernel
theorem d_A_pickEqual_39 : decode b_A_pickEqual 39 = .ok (.iload_n 2, 1) := by decide +kernel
theorem d_A_pickEqual_40 : decode b_A_pickEqual 40 = .ok (.if_icmp .ne 19, 3) := by decide +kernel
theorem d_A_pickEqual_43 : decode b_A_pickEqual 43 = .ok (.aload_n 1, 1) := by decide +kernel
theorem d_A_pickEqual_44 : decode b_A_pickEqual 44 = .ok (.iload 6, 2) := by decide +kernel
theorem d_A_pickEqual_46 : decode b_A_pickEqual 46 = .ok (.invokevirtual 40, 3) := by decide +kernel
theorem d_A_pickEqual_49 : decode b_A_pickEqual 49 = .ok (.ifCond .eq 10, 3) := by decide +kernel
theorem d_A_pickEqual_52 : decode b_A_pickEqual 52 = .ok (.aload 5, 2) := by decide +kernel
theorem d_A_pickEqual_54 : decode b_A_pickEqual 54 = .ok (.iload 6, 2) := by decide +kernel
theorem d_A_pickEqual_56 : decode b_A_pickEqual 56 = .ok (.invokevirtual 58, 3) := by decide +kernel
theorem d_A_pickEqual_59 : decode b_A_pickEqual 59 = .ok (.iinc 6 1, 3) := by decide +kernel
theorem d_A_pickEqual_62 : decode b_A_pickEqual 62 = .ok (.goto (-54), 3) := by decide +kernel
theorem d_A_pickEqual_65 : decode b_A_pickEqual 65 = .ok (.return_, 1) := by decide +kernel
theorem d_A_latestStanding_0 : decode b_A_latestStanding 0 = .ok (.iconst (-1), 1) := by decide +kernel
theorem d_A_latestStanding_1 : decode b_A_latestStanding 1 = .ok (.istore 6, 2) := by decide +kernel
theorem d_A_latestStanding_3 : decode b_A_latestStanding 3 = .ok (.iconst 0, 1) := by decide +kernel
theorem d_A_latestStanding_4 : decode b_A_latestStanding 4 = .ok (.istore 7, 2) := by decide +kernel
theorem d_A_latestStanding_6 : decode b_A_latestStanding 6 = .ok (.iload 7, 2) := by decide +kernel
theorem d_A_latestStanding_8 : decode b_A_latestStanding 8 = .ok (.aload_n 0, 1) := by decide +kernel
theorem d_A_latestStanding_9 : decode b_A_latestStanding 9 = .ok (.getfield 36, 3) := by decide +kernel
theorem d_A_latestStanding_12 : decode b_A_latestStanding 12 = .ok (.if_icmp .ge 75, 3) := by decide +kernel
theorem d_A_latestStanding_15 : decode b_A_latestStanding 15 = .ok (.aload_n 0, 1) := by decide +kernel
theorem d_A_latestStanding_16 : decode b_A_latestStanding 16 = .ok (.getfield 15, 3) := by decide +kernel
theorem d_A_latestStanding_19 : decode b_A_latestStanding 19 = .ok (.iload 7, 2) := by decide +kernel
theorem d_A_latestStanding_21 : decode b_A_latestStanding 21 = .ok (.iaload, 1) := by decide +kernel
theorem d_A_latestStanding_22 : decode b_A_latestStanding 22 = .ok (.istore 8, 2) := by decide +kernel
theorem d_A_latestStanding_24 : decode b_A_latestStanding 24 = .ok (.iload 8, 2) := by decide +kernel
theorem d_A_latestStanding_26 : decode b_A_latestStanding 26 = .ok (.ldc 66, 2) := by decide +kernel
theorem d_A_latestStanding_28 : decode b_A_latestStanding 28 = .ok (.idiv, 1) := by decide +kernel
theorem d_A_latestStanding_29 : decode b_A_latestStanding 29 = .ok (.iload_n 2, 1) := by decide +kernel
theorem d_A_latestStanding_30 : decode b_A_latestStanding 30 = .ok (.bipush 10, 2) := by decide +kernel
theorem d_A_latestStanding_32 : decode b_A_latestStanding 32 = .ok (.imul, 1) := by decide +kernel
theorem d_A_latestStanding_33 : decode b_A_latestStanding 33 = .ok (.iload_n 3, 1) := by decide +kernel
theorem d_A_latestStanding_34 : decode b_A_latestStanding 34 = .ok (.iadd, 1) := by decide +kernel
theorem d_A_latestStanding_35 : decode b_A_latestStanding 35 = .ok (.if_icmp .ne 46, 3) := by decide +kernel
theorem d_A_latestStanding_38 : decode b_A_latestStanding 38 = .ok (.iload 8, 2) := by decide +kernel
theorem d_A_latestStanding_40 : decode b_A_latestStanding 40 = .ok (.invokestatic 67, 3) := by decide +kernel
theorem d_A_latestStanding_43 : decode b_A_latestStanding 43 = .ok (.i2l, 1) := by decide +kernel
theorem d_A_latestStanding_44 : decode b_A_latestStanding 44 = .ok (.lload 4, 2) := by decide +kernel
theorem d_A_latestStanding_46 : decode b_A_latestStanding 46 = .ok (.lcmp, 1) := by decide +kernel
theorem d_A_latestStanding_47 : decode b_A_latestStanding 47 = .ok (.ifCond .gt 34, 3) := by decide +kernel
theorem d_A_latestStanding_50 : decode b_A_latestStanding 50 = .ok (.aload_n 0, 1) := by decide +kernel
theorem d_A_latestStanding_51 : decode b_A_latestStanding 51 = .ok (.aload_n 1, 1) := by decide +kernel
theorem d_A_latestStanding_52 : decode b_A_latestStanding 52 = .ok (.iload 7, 2) := by decide +kernel
theorem d_A_latestStanding_54 : decode b_A_latestStanding 54 = .ok (.invokevirtual 54, 3) := by decide +kernel
theorem d_A_latestStanding_57 : decode b_A_latestStanding 57 = .ok (.ifCond .eq 24, 3) := by decide +kernel
theorem d_A_latestStanding_60 : decode b_A_latestStanding 60 = .ok (.iload 6, 2) := by decide +kernel
theorem d_A_latestStanding_62 : decode b_A_latestStanding 62 = .ok (.iconst (-1), 1) := by decide +kernel
theorem d_A_latestStanding_63 : decode b_A_latestStanding 63 = .ok (.if_icmp .eq 14, 3) := by decide +kernel
theorem d_A_latestStanding_66 : decode b_A_latestStanding 66 = .ok (.aload_n 0, 1) := by decide +kernel
theorem d_A_latestStanding_67 : decode b_A_latestStanding 67 = .ok (.iload 7, 2) := by decide +kernel
theorem d_A_latestStanding_69 : decode b_A_latestStanding 69 = .ok (.iload 6, 2) := by decide +kernel
theorem d_A_latestStanding_71 : decode b_A_latestStanding 71 = .ok (.invokevirtual 70, 3) := by decide +kernel
theorem d_A_latestStanding_74 : decode b_A_latestStanding 74 = .ok (.ifCond .eq 7, 3) := by decide +kernel
theorem d_A_latestStanding_77 : decode b_A_latestStanding 77 = .ok (.iload 7, 2) := by decide +kernel
theorem d_A_latestStanding_79 : decode b_A_latestStanding 79 = .ok (.istore 6, 2) := by decide +kernel
theorem d_A_latestStanding_81 : decode b_A_latestStanding 81 = .ok (.iinc 7 1, 3) := by decide +kernel
theorem d_A_latestStanding_84 : decode b_A_latestStanding 84 = .ok (.goto (-78), 3) := by decide +kernel
theorem d_A_latestStanding_87 : decode b_A_latestStanding 87 = .ok (.iload 6, 2) := by decide +kernel
theorem d_A_latestStanding_89 : decode b_A_latestStanding 89 = .ok (.ireturn, 1) := by decide +kernel
theorem d_A_isLater_0 : decode b_A_isLater 0 = .ok (.aload_n 0, 1) := by decide +kernel
theorem d_A_isLater_1 : decode b_A_isLater 1 = .ok (.getfield 15, 3) := by decide +kernel
theorem d_A_isLater_4 : decode b_A_isLater 4 = .ok (.iload_n 1, 1) := by decide +kernel
theorem d_A_isLater_5 : decode b_A_isLater 5 = .ok (.iaload, 1) := by decide +kernel
theorem d_A_isLater_6 : decode b_A_isLater 6 = .ok (.aload_n 0, 1) := by decide +kernel
theorem d_A_isLater_7 : decode b_A_isLater 7 = .ok (.getfield 15, 3) := by decide +kernel
theorem d_A_isLater_10 : decode b_A_isLater 10 = .ok (.iload_n 2, 1) := by decide +kernel
theorem d_A_isLater_11 : decode b_A_isLater 11 = .ok (.iaload, 1) := by decide +kernel
theorem d_A_isLater_12 : decode b_A_isLater 12 = .ok (.if_icmp .eq 24, 3) := by decide +kernel
theorem d_A_isLater_15 : decode b_A_isLater 15 = .ok (.aload_n 0, 1) := by decide +kernel
theorem d_A_isLater_16 : decode b_A_isLater 16 = .ok (.getfield 15, 3) := by decide +kernel
theorem d_A_isLater_19 : decode b_A_isLater 19 = .ok (.iload_n 1, 1) := by decide +kernel
theorem d_A_isLater_20 : decode b_A_isLater 20 = .ok (.iaload, 1) := by decide +kernel
theorem d_A_isLater_21 : decode b_A_isLater 21 = .ok (.aload_n 0, 1) := by decide +kernel
theorem d_A_isLater_22 : decode b_A_isLater 22 = .ok (.getfield 15, 3) := by decide +kernel
theorem d_A_isLater_25 : decode b_A_isLater 25 = .ok (.iload_n 2, 1) := by decide +kernel
theorem d_A_isLater_26 : decode b_A_isLater 26 = .ok (.iaload, 1) := by decide +kernel
theorem d_A_isLater_27 : decode b_A_isLater 27 = .ok (.if_icmp .le 7, 3) := by decide +kernel
theorem d_A_isLater_30 : decode b_A_isLater 30 = .ok (.iconst 1, 1) := by decide +kernel
theorem d_A_isLater_31 : decode b_A_isLater 31 = .ok (.goto 4, 3) := by decide +kernel
theorem d_A_isLater_34 : decode b_A_isLater 34 = .ok (.iconst 0, 1) := by decide +kernel
theorem d_A_isLater_35 : decode b_A_isLater 35 = .ok (.ireturn, 1) := by decide +kernel
theorem d_A_isLater_36 : decode b_A_isLater 36 = .ok (.aload_n 0, 1) := by decide +kernel
theorem d_A_isLater_37 : decode b_A_isLater 37 = .ok (.getfield 22, 3) := by decide +kernel
theorem d_A_isLater_40 : decode b_A_isLater 40 = .ok (.iload_n 1, 1) := by decide +kernel
theorem d_A_isLater_41 : decode b_A_isLater 41 = .ok (.iaload, 1) := by decide +kernel
theorem d_A_isLater_42 : decode b_A_isLater 42 = .ok (.aload_n 0, 1) := by decide +kernel
theorem d_A_isLater_43 : decode b_A_isLater 43 = .ok (.getfield 22, 3) := by decide +kernel
theorem d_A_isLater_46 : decode b_A_isLater 46 = .ok (.iload_n 2, 1) := by decide +kernel
theorem d_A_isLater_47 : decode b_A_isLater 47 = .ok (.iaload, 1) := by decide +kernel
theorem d_A_isLater_48 : decode b_A_isLater 48 = .ok (.if_icmp .eq 24, 3) := by decide +kernel
theorem d_A_isLater_51 : decode b_A_isLater 51 = .ok (.aload_n 0, 1) := by decide +kernel
theorem d_A_isLater_52 : decode b_A_isLater 52 = .ok (.getfield 22, 3) := by decide +kernel
theorem d_A_isLater_55 : decode b_A_isLater 55 = .ok (.iload_n 1, 1) := by decide +kernel
theorem d_A_isLater_56 : decode b_A_isLater 56 = .ok (.iaload, 1) := by decide +kernel
theorem d_A_isLater_57 : decode b_A_isLater 57 = .ok (.aload_n 0, 1) := by decide +kernel
theorem d_A_isLater_58 : decode b_A_isLater 58 = .ok (.getfield 22, 3) := by decide +kernel
theorem d_A_isLater_61 : decode b_A_isLater 61 = .ok (.iload_n 2, 1) := by decide +kernel
theorem d_A_isLater_62 : decode b_A_isLater 62 = .ok (.iaload, 1) := by decide +kernel
theorem d_A_isLater_63 : decode b_A_isLater 63 = .ok (.if_icmp .le 7, 3) := by decide +kernel
theorem d_A_isLater_66 : decode b_A_isLater 66 = .ok (.iconst 1, 1) := by decide +kernel
theorem d_A_isLater_67 : decode b_A_isLater 67 = .ok (.goto 4, 3) := by decide +kernel
theorem d_A_isLater_70 : decode b_A_isLater 70 = .ok (.iconst 0, 1) := by decide +kernel
theorem d_A_isLater_71 : decode b_A_isLater 71 = .ok (.ireturn, 1) := by decide +kernel
theorem d_A_isLater_72 : decode b_A_isLater 72 = .ok (.aload_n 0, 1) := by decide +kernel
theorem d_A_isLater_73 : decode b_A_isLater 73 = .ok (.getfield 9, 3) := by decide +kernel
theorem d_A_isLater_76 : decode b_A_isLater 76 = .ok (.iload_n 1, 1) := by decide +kernel
theorem d_A_isLater_77 : decode b_A_isLater 77 = .ok (.iaload, 1) := by decide +kernel
theorem d_A_isLater_78 : decode b_A_isLater 78 = .ok (.aload_n 0, 1) := by decide +kernel
theorem d_A_isLater_79 : decode b_A_isLater 79 = .ok (.getfield 9, 3) := by decide +kernel
theorem d_A_isLater_82 : decode b_A_isLater 82 = .ok (.iload_n 2, 1) := by decide +kernel
theorem d_A_isLater_83 : decode b_A_isLater 83 = .ok (.iaload, 1) := by decide +kernel
theorem d_A_isLater_84 : decode b_A_isLater 84 = .ok (.if_icmp .le 7, 3) := by decide +kernel
