theorem d_M_find_96 : decode b_M_find 96 = .ok (.ifCond .eq 47, 3) := by decide +kernel
theorem d_M_find_99 : decode b_M_find 99 = .ok (.aload_n 0, 1) := by decide +kernel
theorem d_M_find_100 : decode b_M_find 100 = .ok (.getfield 26, 3) := by decide +kernel
theorem d_M_find_103 : decode b_M_find 103 = .ok (.iload 8, 2) := by decide +kernel
theorem d_M_find_105 : decode b_M_find 105 = .ok (.iaload, 1) := by decide +kernel
theorem d_M_find_106 : decode b_M_find 106 = .ok (.iload_n 2, 1) := by decide +kernel
theorem d_M_find_107 : decode b_M_find 107 = .ok (.if_icmp .ne 36, 3) := by decide +kernel
theorem d_M_find_110 : decode b_M_find 110 = .ok (.aload_n 0, 1) := by decide +kernel
theorem d_M_find_111 : decode b_M_find 111 = .ok (.getfield 32, 3) := by decide +kernel
theorem d_M_find_114 : decode b_M_find 114 = .ok (.iload 8, 2) := by decide +kernel
theorem d_M_find_116 : decode b_M_find 116 = .ok (.laload, 1) := by decide +kernel
theorem d_M_find_117 : decode b_M_find 117 = .ok (.lload_n 3, 1) := by decide +kernel
theorem d_M_find_118 : decode b_M_find 118 = .ok (.lcmp, 1) := by decide +kernel
theorem d_M_find_119 : decode b_M_find 119 = .ok (.ifCond .ne 24, 3) := by decide +kernel
theorem d_M_find_122 : decode b_M_find 122 = .ok (.aload_n 0, 1) := by decide +kernel
theorem d_M_find_123 : decode b_M_find 123 = .ok (.getfield 20, 3) := by decide +kernel
theorem d_M_find_126 : decode b_M_find 126 = .ok (.iload 8, 2) := by decide +kernel
theorem d_M_find_128 : decode b_M_find 128 = .ok (.iaload, 1) := by decide +kernel
theorem d_M_find_129 : decode b_M_find 129 = .ok (.aload_n 0, 1) := by decide +kernel
theorem d_M_find_130 : decode b_M_find 130 = .ok (.getfield 20, 3) := by decide +kernel
theorem d_M_find_133 : decode b_M_find 133 = .ok (.iload 6, 2) := by decide +kernel
theorem d_M_find_135 : decode b_M_find 135 = .ok (.iaload, 1) := by decide +kernel
theorem d_M_find_136 : decode b_M_find 136 = .ok (.if_icmp .ge 7, 3) := by decide +kernel
theorem d_M_find_139 : decode b_M_find 139 = .ok (.iconst 1, 1) := by decide +kernel
theorem d_M_find_140 : decode b_M_find 140 = .ok (.goto 4, 3) := by decide +kernel
theorem d_M_find_143 : decode b_M_find 143 = .ok (.iconst 0, 1) := by decide +kernel
theorem d_M_find_144 : decode b_M_find 144 = .ok (.iadd, 1) := by decide +kernel
theorem d_M_find_145 : decode b_M_find 145 = .ok (.istore 7, 2) := by decide +kernel
theorem d_M_find_147 : decode b_M_find 147 = .ok (.iinc 8 1, 3) := by decide +kernel
theorem d_M_find_150 : decode b_M_find 150 = .ok (.goto (-78), 3) := by decide +kernel
theorem d_M_find_153 : decode b_M_find 153 = .ok (.iload 7, 2) := by decide +kernel
theorem d_M_find_155 : decode b_M_find 155 = .ok (.iload 5, 2) := by decide +kernel
theorem d_M_find_157 : decode b_M_find 157 = .ok (.if_icmp .ne 11, 3) := by decide +kernel
theorem d_M_find_160 : decode b_M_find 160 = .ok (.aload_n 0, 1) := by decide +kernel
theorem d_M_find_161 : decode b_M_find 161 = .ok (.getfield 20, 3) := by decide +kernel
theorem d_M_find_164 : decode b_M_find 164 = .ok (.iload 6, 2) := by decide +kernel
theorem d_M_find_166 : decode b_M_find 166 = .ok (.iaload, 1) := by decide +kernel
theorem d_M_find_167 : decode b_M_find 167 = .ok (.ireturn, 1) := by decide +kernel
theorem d_M_find_168 : decode b_M_find 168 = .ok (.iinc 6 1, 3) := by decide +kernel
theorem d_M_find_171 : decode b_M_find 171 = .ok (.goto (-153), 3) := by decide +kernel
theorem d_M_find_174 : decode b_M_find 174 = .ok (.iconst (-1), 1) := by decide +kernel
theorem d_M_find_175 : decode b_M_find 175 = .ok (.ireturn, 1) := by decide +kernel
theorem d_M_counts_0 : decode b_M_counts 0 = .ok (.aload_n 0, 1) := by decide +kernel
theorem d_M_counts_1 : decode b_M_counts 1 = .ok (.iload_n 1, 1) := by decide +kernel
theorem d_M_counts_2 : decode b_M_counts 2 = .ok (.invokevirtual 62, 3) := by decide +kernel
theorem d_M_counts_5 : decode b_M_counts 5 = .ok (.ifCond .ne 5, 3) := by decide +kernel
theorem d_M_counts_8 : decode b_M_counts 8 = .ok (.iconst (-1), 1) := by decide +kernel
theorem d_M_counts_9 : decode b_M_counts 9 = .ok (.ireturn, 1) := by decide +kernel
theorem d_M_counts_10 : decode b_M_counts 10 = .ok (.iconst 0, 1) := by decide +kernel
theorem d_M_counts_11 : decode b_M_counts 11 = .ok (.istore_n 2, 1) := by decide +kernel
theorem d_M_counts_12 : decode b_M_counts 12 = .ok (.iconst 0, 1) := by decide +kernel
theorem d_M_counts_13 : decode b_M_counts 13 = .ok (.istore_n 3, 1) := by decide +kernel
theorem d_M_counts_14 : decode b_M_counts 14 = .ok (.iload_n 3, 1) := by decide +kernel
theorem d_M_counts_15 : decode b_M_counts 15 = .ok (.aload_n 0, 1) := by decide +kernel
theorem d_M_counts_16 : decode b_M_counts 16 = .ok (.getfield 59, 3) := by decide +kernel
theorem d_M_counts_19 : decode b_M_counts 19 = .ok (.if_icmp .ge 32, 3) := by decide +kernel
theorem d_M_counts_22 : decode b_M_counts 22 = .ok (.iload_n 2, 1) := by decide +kernel
theorem d_M_counts_23 : decode b_M_counts 23 = .ok (.aload_n 0, 1) := by decide +kernel
theorem d_M_counts_24 : decode b_M_counts 24 = .ok (.getfield 46, 3) := by decide +kernel
theorem d_M_counts_27 : decode b_M_counts 27 = .ok (.iload_n 1, 1) := by decide +kernel
theorem d_M_counts_28 : decode b_M_counts 28 = .ok (.sipush 300, 3) := by decide +kernel
theorem d_M_counts_31 : decode b_M_counts 31 = .ok (.imul, 1) := by decide +kernel
theorem d_M_counts_32 : decode b_M_counts 32 = .ok (.iload_n 3, 1) := by decide +kernel
theorem d_M_counts_33 : decode b_M_counts 33 = .ok (.iadd, 1) := by decide +kernel
theorem d_M_counts_34 : decode b_M_counts 34 = .ok (.baload, 1) := by decide +kernel
theorem d_M_counts_35 : decode b_M_counts 35 = .ok (.ifCond .eq 7, 3) := by decide +kernel
theorem d_M_counts_38 : decode b_M_counts 38 = .ok (.iconst 1, 1) := by decide +kernel
theorem d_M_counts_39 : decode b_M_counts 39 = .ok (.goto 4, 3) := by decide +kernel
theorem d_M_counts_42 : decode b_M_counts 42 = .ok (.iconst 0, 1) := by decide +kernel
theorem d_M_counts_43 : decode b_M_counts 43 = .ok (.iadd, 1) := by decide +kernel
theorem d_M_counts_44 : decode b_M_counts 44 = .ok (.istore_n 2, 1) := by decide +kernel
theorem d_M_counts_45 : decode b_M_counts 45 = .ok (.iinc 3 1, 3) := by decide +kernel
theorem d_M_counts_48 : decode b_M_counts 48 = .ok (.goto (-34), 3) := by decide +kernel
theorem d_M_counts_51 : decode b_M_counts 51 = .ok (.iload_n 2, 1) := by decide +kernel
theorem d_M_counts_52 : decode b_M_counts 52 = .ok (.ireturn, 1) := by decide +kernel
theorem d_M_batch_0 : decode b_M_batch 0 = .ok (.aload_n 0, 1) := by decide +kernel
theorem d_M_batch_1 : decode b_M_batch 1 = .ok (.iload_n 1, 1) := by decide +kernel
theorem d_M_batch_2 : decode b_M_batch 2 = .ok (.invokevirtual 62, 3) := by decide +kernel
theorem d_M_batch_5 : decode b_M_batch 5 = .ok (.ifCond .eq 13, 3) := by decide +kernel
theorem d_M_batch_8 : decode b_M_batch 8 = .ok (.aload_n 0, 1) := by decide +kernel
theorem d_M_batch_9 : decode b_M_batch 9 = .ok (.getfield 17, 3) := by decide +kernel
theorem d_M_batch_12 : decode b_M_batch 12 = .ok (.iload_n 1, 1) := by decide +kernel
theorem d_M_batch_13 : decode b_M_batch 13 = .ok (.iaload, 1) := by decide +kernel
theorem d_M_batch_14 : decode b_M_batch 14 = .ok (.iconst (-1), 1) := by decide +kernel
theorem d_M_batch_15 : decode b_M_batch 15 = .ok (.if_icmp .eq 5, 3) := by decide +kernel
theorem d_M_batch_18 : decode b_M_batch 18 = .ok (.iconst (-1), 1) := by decide +kernel
theorem d_M_batch_19 : decode b_M_batch 19 = .ok (.ireturn, 1) := by decide +kernel
theorem d_M_batch_20 : decode b_M_batch 20 = .ok (.aload_n 0, 1) := by decide +kernel
theorem d_M_batch_21 : decode b_M_batch 21 = .ok (.getfield 108, 3) := by decide +kernel
theorem d_M_batch_24 : decode b_M_batch 24 = .ok (.bipush 40, 2) := by decide +kernel
theorem d_M_batch_26 : decode b_M_batch 26 = .ok (.if_icmp .ne 6, 3) := by decide +kernel
theorem d_M_batch_29 : decode b_M_batch 29 = .ok (.bipush (-2), 2) := by decide +kernel
theorem d_M_batch_31 : decode b_M_batch 31 = .ok (.ireturn, 1) := by decide +kernel
theorem d_M_batch_32 : decode b_M_batch 32 = .ok (.aload_n 0, 1) := by decide +kernel
theorem d_M_batch_33 : decode b_M_batch 33 = .ok (.getfield 49, 3) := by decide +kernel
theorem d_M_batch_36 : decode b_M_batch 36 = .ok (.aload_n 0, 1) := by decide +kernel
theorem d_M_batch_37 : decode b_M_batch 37 = .ok (.getfield 108, 3) := by decide +kernel
theorem d_M_batch_40 : decode b_M_batch 40 = .ok (.iload_n 1, 1) := by decide +kernel
theorem d_M_batch_41 : decode b_M_batch 41 = .ok (.iastore, 1) := by decide +kernel
theorem d_M_batch_42 : decode b_M_batch 42 = .ok (.aload_n 0, 1) := by decide +kernel
theorem d_M_batch_43 : decode b_M_batch 43 = .ok (.getfield 17, 3) := by decide +kernel
theorem d_M_batch_46 : decode b_M_batch 46 = .ok (.iload_n 1, 1) := by decide +kernel
theorem d_M_batch_47 : decode b_M_batch 47 = .ok (.aload_n 0, 1) := by decide +kernel
theorem d_M_batch_48 : decode b_M_batch 48 = .ok (.getfield 108, 3) := by decide +kernel
theorem d_M_batch_51 : decode b_M_batch 51 = .ok (.iastore, 1) := by decide +kernel
theorem d_M_batch_52 : decode b_M_batch 52 = .ok (.aload_n 0, 1) := by decide +kernel
theorem d_M_batch_53 : decode b_M_batch 53 = .ok (.dup, 1) := by decide +kernel
theorem d_M_batch_54 : decode b_M_batch 54 = .ok (.getfield 108, 3) := by decide +kernel
theorem d_M_batch_57 : decode b_M_batch 57 = .ok (.iconst 1, 1) := by decide +kernel
theorem d_M_batch_58 : decode b_M_batch 58 = .ok (.iadd, 1) := by decide +kernel
theorem d_M_batch_59 : decode b_M_batch 59 = .ok (.putfield 108, 3) := by decide +kernel
theorem d_M_batch_62 : decode b_M_batch 62 = .ok (.aload_n 0, 1) := by decide +kernel
theorem d_M_batch_63 : decode b_M_batch 63 = .ok (.getfield 108, 3) := by decide +kernel
theorem d_M_batch_66 : decode b_M_batch 66 = .ok (.iconst 1, 1) := by decide +kernel
theorem d_M_batch_67 : decode b_M_batch 67 = .ok (.isub, 1) := by decide +kernel
theorem d_M_batch_68 : decode b_M_batch 68 = .ok (.ireturn, 1) := by decide +kernel
theorem d_M_endBatch_0 : decode b_M_endBatch 0 = .ok (.iload_n 1, 1) := by decide +kernel
theorem d_M_endBatch_1 : decode b_M_endBatch 1 = .ok (.ifCond .lt 26, 3) := by decide +kernel
theorem d_M_endBatch_4 : decode b_M_endBatch 4 = .ok (.iload_n 1, 1) := by decide +kernel
theorem d_M_endBatch_5 : decode b_M_endBatch 5 = .ok (.aload_n 0, 1) := by decide +kernel
theorem d_M_endBatch_6 : decode b_M_endBatch 6 = .ok (.getfield 108, 3) := by decide +kernel
theorem d_M_endBatch_9 : decode b_M_endBatch 9 = .ok (.if_icmp .ge 18, 3) := by decide +kernel
theorem d_M_endBatch_12 : decode b_M_endBatch 12 = .ok (.aload_n 0, 1) := by decide +kernel
theorem d_M_endBatch_13 : decode b_M_endBatch 13 = .ok (.getfield 17, 3) := by decide +kernel
theorem d_M_endBatch_16 : decode b_M_endBatch 16 = .ok (.aload_n 0, 1) := by decide +kernel
theorem d_M_endBatch_17 : decode b_M_endBatch 17 = .ok (.getfield 49, 3) := by decide +kernel
theorem d_M_endBatch_20 : decode b_M_endBatch 20 = .ok (.iload_n 1, 1) := by decide +kernel
theorem d_M_endBatch_21 : decode b_M_endBatch 21 = .ok (.iaload, 1) := by decide +kernel
theorem d_M_endBatch_22 : decode b_M_endBatch 22 = .ok (.iaload, 1) := by decide +kernel
theorem d_M_endBatch_23 : decode b_M_endBatch 23 = .ok (.iload_n 1, 1) := by decide +kernel
theorem d_M_endBatch_24 : decode b_M_endBatch 24 = .ok (.if_icmp .eq 5, 3) := by decide +kernel
theorem d_M_endBatch_27 : decode b_M_endBatch 27 = .ok (.iconst 0, 1) := by decide +kernel
theorem d_M_endBatch_28 : decode b_M_endBatch 28 = .ok (.ireturn, 1) := by decide +kernel
theorem d_M_endBatch_29 : decode b_M_endBatch 29 = .ok (.aload_n 0, 1) := by decide +kernel
theorem d_M_endBatch_30 : decode b_M_endBatch 30 = .ok (.getfield 49, 3) := by decide +kernel
theorem d_M_endBatch_33 : decode b_M_endBatch 33 = .ok (.iload_n 1, 1) := by decide +kernel
theorem d_M_endBatch_34 : decode b_M_endBatch 34 = .ok (.iaload, 1) := by decide +kernel
theorem d_M_endBatch_35 : decode b_M_endBatch 35 = .ok (.istore_n 2, 1) := by decide +kernel
theorem d_M_endBatch_36 : decode b_M_endBatch 36 = .ok (.aload_n 0, 1) := by decide +kernel
theorem d_M_endBatch_37 : decode b_M_endBatch 37 = .ok (.getfield 17, 3) := by decide +kernel
theorem d_M_endBatch_40 : decode b_M_endBatch 40 = .ok (.iload_n 2, 1) := by decide +kernel
theorem d_M_endBatch_41 : decode b_M_endBatch 41 = .ok (.iconst (-1), 1) := by decide +kernel
theorem d_M_endBatch_42 : decode b_M_endBatch 42 = .ok (.iastore, 1) := by decide +kernel
theorem d_M_endBatch_43 : decode b_M_endBatch 43 = .ok (.iconst 0, 1) := by decide +kernel
theorem d_M_endBatch_44 : decode b_M_endBatch 44 = .ok (.istore_n 3, 1) := by decide +kernel
theorem d_M_endBatch_45 : decode b_M_endBatch 45 = .ok (.iload_n 3, 1) := by decide +kernel
theorem d_M_endBatch_46 : decode b_M_endBatch 46 = .ok (.aload_n 0, 1) := by decide +kernel
theorem d_M_endBatch_47 : decode b_M_endBatch 47 = .ok (.getfield 59, 3) := by decide +kernel
theorem d_M_endBatch_50 : decode b_M_endBatch 50 = .ok (.if_icmp .ge 39, 3) := by decide +kernel
theorem d_M_endBatch_53 : decode b_M_endBatch 53 = .ok (.aload_n 0, 1) := by decide +kernel
theorem d_M_endBatch_54 : decode b_M_endBatch 54 = .ok (.getfield 46, 3) := by decide +kernel
theorem d_M_endBatch_57 : decode b_M_endBatch 57 = .ok (.iload_n 2, 1) := by decide +kernel
theorem d_M_endBatch_58 : decode b_M_endBatch 58 = .ok (.sipush 300, 3) := by decide +kernel
theorem d_M_endBatch_61 : decode b_M_endBatch 61 = .ok (.imul, 1) := by decide +kernel
theorem d_M_endBatch_62 : decode b_M_endBatch 62 = .ok (.iload_n 3, 1) := by decide +kernel
theorem d_M_endBatch_63 : decode b_M_endBatch 63 = .ok (.iadd, 1) := by decide +kernel
theorem d_M_endBatch_64 : decode b_M_endBatch 64 = .ok (.dup2, 1) := by decide +kernel
theorem d_M_endBatch_65 : decode b_M_endBatch 65 = .ok (.baload, 1) := by decide +kernel
theorem d_M_endBatch_66 : decode b_M_endBatch 66 = .ok (.aload_n 0, 1) := by decide +kernel
theorem d_M_endBatch_67 : decode b_M_endBatch 67 = .ok (.getfield 38, 3) := by decide +kernel
theorem d_M_endBatch_70 : decode b_M_endBatch 70 = .ok (.iload_n 3, 1) := by decide +kernel
theorem d_M_endBatch_71 : decode b_M_endBatch 71 = .ok (.iaload, 1) := by decide +kernel
theorem d_M_endBatch_72 : decode b_M_endBatch 72 = .ok (.iload_n 1, 1) := by decide +kernel
theorem d_M_endBatch_73 : decode b_M_endBatch 73 = .ok (.if_icmp .ne 7, 3) := by decide +kernel
theorem d_M_endBatch_76 : decode b_M_endBatch 76 = .ok (.iconst 1, 1) := by decide +kernel
theorem d_M_endBatch_77 : decode b_M_endBatch 77 = .ok (.goto 4, 3) := by decide +kernel
theorem d_M_endBatch_80 : decode b_M_endBatch 80 = .ok (.iconst 0, 1) := by decide +kernel
theorem d_M_endBatch_81 : decode b_M_endBatch 81 = .ok (.ior, 1) := by decide +kernel
theorem d_M_endBatch_82 : decode b_M_endBatch 82 = .ok (.bastore, 1) := by decide +kernel
theorem d_M_endBatch_83 : decode b_M_endBatch 83 = .ok (.iinc 3 1, 3) := by decide +kernel
theorem d_M_endBatch_86 : decode b_M_endBatch 86 = .ok (.goto (-41), 3) := by decide +kernel
theorem d_M_endBatch_89 : decode b_M_endBatch 89 = .ok (.iconst 1, 1) := by decide +kernel
theorem d_M_endBatch_90 : decode b_M_endBatch 90 = .ok (.ireturn, 1) := by decide +kernel
theorem d_M_draw_0 : decode b_M_draw 0 = .ok (.aload_n 0, 1) := by decide +kernel
theorem d_M_draw_1 : decode b_M_draw 1 = .ok (.aload_n 0, 1) := by decide +kernel
theorem d_M_draw_2 : decode b_M_draw 2 = .ok (.getfield 111, 3) := by decide +kernel
theorem d_M_draw_5 : decode b_M_draw 5 = .ok (.ldc2_w 115, 3) := by decide +kernel
theorem d_M_draw_8 : decode b_M_draw 8 = .ok (.lmul, 1) := by decide +kernel
theorem d_M_draw_9 : decode b_M_draw 9 = .ok (.ldc2_w 117, 3) := by decide +kernel
theorem d_M_draw_12 : decode b_M_draw 12 = .ok (.ladd, 1) := by decide +kernel
theorem d_M_draw_13 : decode b_M_draw 13 = .ok (.putfield 111, 3) := by decide +kernel
theorem d_M_draw_16 : decode b_M_draw 16 = .ok (.aload_n 0, 1) := by decide +kernel
theorem d_M_draw_17 : decode b_M_draw 17 = .ok (.getfield 111, 3) := by decide +kernel
theorem d_M_draw_20 : decode b_M_draw 20 = .ok (.bipush 33, 2) := by decide +kernel
theorem d_M_draw_22 : decode b_M_draw 22 = .ok (.lushr, 1) := by decide +kernel
theorem d_M_draw_23 : decode b_M_draw 23 = .ok (.iload_n 1, 1) := by decide +kernel
theorem d_M_draw_24 : decode b_M_draw 24 = .ok (.i2l, 1) := by decide +kernel
theorem d_M_draw_25 : decode b_M_draw 25 = .ok (.lrem, 1) := by decide +kernel
theorem d_M_draw_26 : decode b_M_draw 26 = .ok (.l2i, 1) := by decide +kernel
theorem d_M_draw_27 : decode b_M_draw 27 = .ok (.ireturn, 1) := by decide +kernel
theorem d_M_play_0 : decode b_M_play 0 = .ok (.aload_n 0, 1) := by decide +kernel
theorem d_M_play_1 : decode b_M_play 1 = .ok (.getfield 55, 3) := by decide +kernel
theorem d_M_play_4 : decode b_M_play 4 = .ok (.ifCond .eq 14, 3) := by decide +kernel
theorem d_M_play_7 : decode b_M_play 7 = .ok (.iload_n 3, 1) := by decide +kernel
theorem d_M_play_8 : decode b_M_play 8 = .ok (.ifCond .lt 10, 3) := by decide +kernel
theorem d_M_play_11 : decode b_M_play 11 = .ok (.iload_n 3, 1) := by decide +kernel
theorem d_M_play_12 : decode b_M_play 12 = .ok (.sipush 200, 3) := by decide +kernel
theorem d_M_play_15 : decode b_M_play 15 = .ok (.if_icmp .le 5, 3) := by decide +kernel
theorem d_M_play_18 : decode b_M_play 18 = .ok (.iconst (-1), 1) := by decide +kernel
theorem d_M_play_19 : decode b_M_play 19 = .ok (.ireturn, 1) := by decide +kernel
theorem d_M_play_20 : decode b_M_play 20 = .ok (.aload_n 0, 1) := by decide +kernel
theorem d_M_play_21 : decode b_M_play 21 = .ok (.lload_n 1, 1) := by decide +kernel
theorem d_M_play_22 : decode b_M_play 22 = .ok (.putfield 111, 3) := by decide +kernel
theorem d_M_play_25 : decode b_M_play 25 = .ok (.iconst 0, 1) := by decide +kernel
theorem d_M_play_26 : decode b_M_play 26 = .ok (.istore 4, 2) := by decide +kernel
theorem d_M_play_28 : decode b_M_play 28 = .ok (.iload 4, 2) := by decide +kernel
theorem d_M_play_30 : decode b_M_play 30 = .ok (.iload_n 3, 1) := by decide +kernel
theorem d_M_play_31 : decode b_M_play 31 = .ok (.if_icmp .ge 89, 3) := by decide +kernel
theorem d_M_play_34 : decode b_M_play 34 = .ok (.aload_n 0, 1) := by decide +kernel
theorem d_M_play_35 : decode b_M_play 35 = .ok (.aload_n 0, 1) := by decide +kernel
theorem d_M_play_36 : decode b_M_play 36 = .ok (.getfield 55, 3) := by decide +kernel
theorem d_M_play_39 : decode b_M_play 39 = .ok (.invokevirtual 119, 3) := by decide +kernel
theorem d_M_play_42 : decode b_M_play 42 = .ok (.istore 5, 2) := by decide +kernel
theorem d_M_play_44 : decode b_M_play 44 = .ok (.aload_n 0, 1) := by decide +kernel
theorem d_M_play_45 : decode b_M_play 45 = .ok (.iconst 4, 1) := by decide +kernel
theorem d_M_play_46 : decode b_M_play 46 = .ok (.invokevirtual 119, 3) := by decide +kernel
theorem d_M_play_49 : decode b_M_play 49 = .ok (.iconst 3, 1) := by decide +kernel
theorem d_M_play_50 : decode b_M_play 50 = .ok (.if_icmp .ge 48, 3) := by decide +kernel
theorem d_M_play_53 : decode b_M_play 53 = .ok (.aload_n 0, 1) := by decide +kernel
theorem d_M_play_54 : decode b_M_play 54 = .ok (.iconst 4, 1) := by decide +kernel
theorem d_M_play_55 : decode b_M_play 55 = .ok (.invokevirtual 119, 3) := by decide +kernel
theorem d_M_play_58 : decode b_M_play 58 = .ok (.istore 6, 2) := by decide +kernel
theorem d_M_play_60 : decode b_M_play 60 = .ok (.aload_n 0, 1) := by decide +kernel
theorem d_M_play_61 : decode b_M_play 61 = .ok (.iconst 2, 1) := by decide +kernel
theorem d_M_play_62 : decode b_M_play 62 = .ok (.invokevirtual 119, 3) := by decide +kernel
theorem d_M_play_65 : decode b_M_play 65 = .ok (.istore 7, 2) := by decide +kernel
theorem d_M_play_67 : decode b_M_play 67 = .ok (.aload_n 0, 1) := by decide +kernel
theorem d_M_play_68 : decode b_M_play 68 = .ok (.iconst 3, 1) := by decide +kernel
theorem d_M_play_69 : decode b_M_play 69 = .ok (.invokevirtual 119, 3) := by decide +kernel
theorem d_M_play_72 : decode b_M_play 72 = .ok (.i2l, 1) := by decide +kernel
theorem d_M_play_73 : decode b_M_play 73 = .ok (.lstore 8, 2) := by decide +kernel
theorem d_M_play_75 : decode b_M_play 75 = .ok (.aload_n 0, 1) := by decide +kernel
theorem d_M_play_76 : decode b_M_play 76 = .ok (.iload 5, 2) := by decide +kernel
theorem d_M_play_78 : decode b_M_play 78 = .ok (.iload 6, 2) := by decide +kernel
theorem d_M_play_80 : decode b_M_play 80 = .ok (.iload 7, 2) := by decide +kernel
theorem d_M_play_82 : decode b_M_play 82 = .ok (.lload 8, 2) := by decide +kernel
theorem d_M_play_84 : decode b_M_play 84 = .ok (.aload_n 0, 1) := by decide +kernel
theorem d_M_play_85 : decode b_M_play 85 = .ok (.iconst 5, 1) := by decide +kernel
theorem d_M_play_86 : decode b_M_play 86 = .ok (.invokevirtual 119, 3) := by decide +kernel
theorem d_M_play_89 : decode b_M_play 89 = .ok (.i2l, 1) := by decide +kernel
theorem d_M_play_90 : decode b_M_play 90 = .ok (.invokevirtual 122, 3) := by decide +kernel
theorem d_M_play_93 : decode b_M_play 93 = .ok (.istore 10, 2) := by decide +kernel
theorem d_M_play_95 : decode b_M_play 95 = .ok (.goto 19, 3) := by decide +kernel
theorem d_M_play_98 : decode b_M_play 98 = .ok (.aload_n 0, 1) := by decide +kernel
theorem d_M_play_99 : decode b_M_play 99 = .ok (.iload 5, 2) := by decide +kernel
theorem d_M_play_101 : decode b_M_play 101 = .ok (.aload_n 0, 1) := by decide +kernel
theorem d_M_play_102 : decode b_M_play 102 = .ok (.aload_n 0, 1) := by decide +kernel
theorem d_M_play_103 : decode b_M_play 103 = .ok (.getfield 55, 3) := by decide +kernel
theorem d_M_play_106 : decode b_M_play 106 = .ok (.invokevirtual 119, 3) := by decide +kernel
theorem d_M_play_109 : decode b_M_play 109 = .ok (.invokevirtual 125, 3) := by decide +kernel
theorem d_M_play_112 : decode b_M_play 112 = .ok (.istore 6, 2) := by decide +kernel
theorem d_M_play_114 : decode b_M_play 114 = .ok (.iinc 4 1, 3) := by decide +kernel
theorem d_M_play_117 : decode b_M_play 117 = .ok (.goto (-89), 3) := by decide +kernel
theorem d_M_play_120 : decode b_M_play 120 = .ok (.iconst 0, 1) := by decide +kernel
theorem d_M_play_121 : decode b_M_play 121 = .ok (.istore 4, 2) := by decide +kernel
theorem d_M_play_123 : decode b_M_play 123 = .ok (.iconst 0, 1) := by decide +kernel
theorem d_M_play_124 : decode b_M_play 124 = .ok (.istore 5, 2) := by decide +kernel
theorem d_M_play_126 : decode b_M_play 126 = .ok (.iload 5, 2) := by decide +kernel
theorem d_M_play_128 : decode b_M_play 128 = .ok (.aload_n 0, 1) := by decide +kernel
theorem d_M_play_129 : decode b_M_play 129 = .ok (.getfield 55, 3) := by decide +kernel
theorem d_M_play_132 : decode b_M_play 132 = .ok (.if_icmp .ge 20, 3) := by decide +kernel
theorem d_M_play_135 : decode b_M_play 135 = .ok (.iload 4, 2) := by decide +kernel
theorem d_M_play_137 : decode b_M_play 137 = .ok (.aload_n 0, 1) := by decide +kernel
theorem d_M_play_138 : decode b_M_play 138 = .ok (.iload 5, 2) := by decide +kernel
theorem d_M_play_140 : decode b_M_play 140 = .ok (.invokevirtual 128, 3) := by decide +kernel
theorem d_M_play_143 : decode b_M_play 143 = .ok (.iadd, 1) := by decide +kernel
theorem d_M_play_144 : decode b_M_play 144 = .ok (.istore 4, 2) := by decide +kernel
theorem d_M_play_146 : decode b_M_play 146 = .ok (.iinc 5 1, 3) := by decide +kernel
theorem d_M_play_149 : decode b_M_play 149 = .ok (.goto (-23), 3) := by decide +kernel
theorem d_M_play_152 : decode b_M_play 152 = .ok (.iload 4, 2) := by decide +kernel
theorem d_M_play_154 : decode b_M_play 154 = .ok (.ireturn, 1) := by decide +kernel
