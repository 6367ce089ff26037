theorem d_M_init_0 : decode b_M_init 0 = .ok (.aload_n 0, 1) := by decide +kernel
theorem d_M_init_1 : decode b_M_init 1 = .ok (.invokespecial 1, 3) := by decide +kernel
theorem d_M_init_4 : decode b_M_init 4 = .ok (.aload_n 0, 1) := by decide +kernel
theorem d_M_init_5 : decode b_M_init 5 = .ok (.bipush 8, 2) := by decide +kernel
theorem d_M_init_7 : decode b_M_init 7 = .ok (.newarray .long, 2) := by decide +kernel
theorem d_M_init_9 : decode b_M_init 9 = .ok (.putfield 9, 3) := by decide +kernel
theorem d_M_init_12 : decode b_M_init 12 = .ok (.aload_n 0, 1) := by decide +kernel
theorem d_M_init_13 : decode b_M_init 13 = .ok (.bipush 8, 2) := by decide +kernel
theorem d_M_init_15 : decode b_M_init 15 = .ok (.newarray .int, 2) := by decide +kernel
theorem d_M_init_17 : decode b_M_init 17 = .ok (.putfield 13, 3) := by decide +kernel
theorem d_M_init_20 : decode b_M_init 20 = .ok (.aload_n 0, 1) := by decide +kernel
theorem d_M_init_21 : decode b_M_init 21 = .ok (.bipush 8, 2) := by decide +kernel
theorem d_M_init_23 : decode b_M_init 23 = .ok (.newarray .int, 2) := by decide +kernel
theorem d_M_init_25 : decode b_M_init 25 = .ok (.putfield 17, 3) := by decide +kernel
theorem d_M_init_28 : decode b_M_init 28 = .ok (.aload_n 0, 1) := by decide +kernel
theorem d_M_init_29 : decode b_M_init 29 = .ok (.sipush 300, 3) := by decide +kernel
theorem d_M_init_32 : decode b_M_init 32 = .ok (.newarray .int, 2) := by decide +kernel
theorem d_M_init_34 : decode b_M_init 34 = .ok (.putfield 20, 3) := by decide +kernel
theorem d_M_init_37 : decode b_M_init 37 = .ok (.aload_n 0, 1) := by decide +kernel
theorem d_M_init_38 : decode b_M_init 38 = .ok (.sipush 300, 3) := by decide +kernel
theorem d_M_init_41 : decode b_M_init 41 = .ok (.newarray .int, 2) := by decide +kernel
theorem d_M_init_43 : decode b_M_init 43 = .ok (.putfield 23, 3) := by decide +kernel
theorem d_M_init_46 : decode b_M_init 46 = .ok (.aload_n 0, 1) := by decide +kernel
theorem d_M_init_47 : decode b_M_init 47 = .ok (.sipush 300, 3) := by decide +kernel
theorem d_M_init_50 : decode b_M_init 50 = .ok (.newarray .int, 2) := by decide +kernel
theorem d_M_init_52 : decode b_M_init 52 = .ok (.putfield 26, 3) := by decide +kernel
theorem d_M_init_55 : decode b_M_init 55 = .ok (.aload_n 0, 1) := by decide +kernel
theorem d_M_init_56 : decode b_M_init 56 = .ok (.sipush 300, 3) := by decide +kernel
theorem d_M_init_59 : decode b_M_init 59 = .ok (.newarray .long, 2) := by decide +kernel
theorem d_M_init_61 : decode b_M_init 61 = .ok (.putfield 29, 3) := by decide +kernel
theorem d_M_init_64 : decode b_M_init 64 = .ok (.aload_n 0, 1) := by decide +kernel
theorem d_M_init_65 : decode b_M_init 65 = .ok (.sipush 300, 3) := by decide +kernel
theorem d_M_init_68 : decode b_M_init 68 = .ok (.newarray .long, 2) := by decide +kernel
theorem d_M_init_70 : decode b_M_init 70 = .ok (.putfield 32, 3) := by decide +kernel
theorem d_M_init_73 : decode b_M_init 73 = .ok (.aload_n 0, 1) := by decide +kernel
theorem d_M_init_74 : decode b_M_init 74 = .ok (.sipush 300, 3) := by decide +kernel
theorem d_M_init_77 : decode b_M_init 77 = .ok (.newarray .long, 2) := by decide +kernel
theorem d_M_init_79 : decode b_M_init 79 = .ok (.putfield 35, 3) := by decide +kernel
theorem d_M_init_82 : decode b_M_init 82 = .ok (.aload_n 0, 1) := by decide +kernel
theorem d_M_init_83 : decode b_M_init 83 = .ok (.sipush 300, 3) := by decide +kernel
theorem d_M_init_86 : decode b_M_init 86 = .ok (.newarray .int, 2) := by decide +kernel
theorem d_M_init_88 : decode b_M_init 88 = .ok (.putfield 38, 3) := by decide +kernel
theorem d_M_init_91 : decode b_M_init 91 = .ok (.aload_n 0, 1) := by decide +kernel
theorem d_M_init_92 : decode b_M_init 92 = .ok (.ldc 41, 2) := by decide +kernel
theorem d_M_init_94 : decode b_M_init 94 = .ok (.newarray .boolean, 2) := by decide +kernel
theorem d_M_init_96 : decode b_M_init 96 = .ok (.putfield 42, 3) := by decide +kernel
theorem d_M_init_99 : decode b_M_init 99 = .ok (.aload_n 0, 1) := by decide +kernel
theorem d_M_init_100 : decode b_M_init 100 = .ok (.sipush 2400, 3) := by decide +kernel
theorem d_M_init_103 : decode b_M_init 103 = .ok (.newarray .boolean, 2) := by decide +kernel
theorem d_M_init_105 : decode b_M_init 105 = .ok (.putfield 46, 3) := by decide +kernel
theorem d_M_init_108 : decode b_M_init 108 = .ok (.aload_n 0, 1) := by decide +kernel
theorem d_M_init_109 : decode b_M_init 109 = .ok (.bipush 40, 2) := by decide +kernel
theorem d_M_init_111 : decode b_M_init 111 = .ok (.newarray .int, 2) := by decide +kernel
theorem d_M_init_113 : decode b_M_init 113 = .ok (.putfield 49, 3) := by decide +kernel
theorem d_M_init_116 : decode b_M_init 116 = .ok (.aload_n 0, 1) := by decide +kernel
theorem d_M_init_117 : decode b_M_init 117 = .ok (.sipush 300, 3) := by decide +kernel
theorem d_M_init_120 : decode b_M_init 120 = .ok (.newarray .boolean, 2) := by decide +kernel
theorem d_M_init_122 : decode b_M_init 122 = .ok (.putfield 52, 3) := by decide +kernel
theorem d_M_init_125 : decode b_M_init 125 = .ok (.return_, 1) := by decide +kernel
theorem d_M_isDesk_0 : decode b_M_isDesk 0 = .ok (.iload_n 1, 1) := by decide +kernel
theorem d_M_isDesk_1 : decode b_M_isDesk 1 = .ok (.ifCond .lt 15, 3) := by decide +kernel
theorem d_M_isDesk_4 : decode b_M_isDesk 4 = .ok (.iload_n 1, 1) := by decide +kernel
theorem d_M_isDesk_5 : decode b_M_isDesk 5 = .ok (.aload_n 0, 1) := by decide +kernel
theorem d_M_isDesk_6 : decode b_M_isDesk 6 = .ok (.getfield 55, 3) := by decide +kernel
theorem d_M_isDesk_9 : decode b_M_isDesk 9 = .ok (.if_icmp .ge 7, 3) := by decide +kernel
theorem d_M_isDesk_12 : decode b_M_isDesk 12 = .ok (.iconst 1, 1) := by decide +kernel
theorem d_M_isDesk_13 : decode b_M_isDesk 13 = .ok (.goto 4, 3) := by decide +kernel
theorem d_M_isDesk_16 : decode b_M_isDesk 16 = .ok (.iconst 0, 1) := by decide +kernel
theorem d_M_isDesk_17 : decode b_M_isDesk 17 = .ok (.ireturn, 1) := by decide +kernel
theorem d_M_desk_0 : decode b_M_desk 0 = .ok (.aload_n 0, 1) := by decide +kernel
theorem d_M_desk_1 : decode b_M_desk 1 = .ok (.getfield 55, 3) := by decide +kernel
theorem d_M_desk_4 : decode b_M_desk 4 = .ok (.bipush 8, 2) := by decide +kernel
theorem d_M_desk_6 : decode b_M_desk 6 = .ok (.if_icmp .ne 6, 3) := by decide +kernel
theorem d_M_desk_9 : decode b_M_desk 9 = .ok (.bipush (-2), 2) := by decide +kernel
theorem d_M_desk_11 : decode b_M_desk 11 = .ok (.ireturn, 1) := by decide +kernel
theorem d_M_desk_12 : decode b_M_desk 12 = .ok (.aload_n 0, 1) := by decide +kernel
theorem d_M_desk_13 : decode b_M_desk 13 = .ok (.getfield 17, 3) := by decide +kernel
theorem d_M_desk_16 : decode b_M_desk 16 = .ok (.aload_n 0, 1) := by decide +kernel
theorem d_M_desk_17 : decode b_M_desk 17 = .ok (.getfield 55, 3) := by decide +kernel
theorem d_M_desk_20 : decode b_M_desk 20 = .ok (.iconst (-1), 1) := by decide +kernel
theorem d_M_desk_21 : decode b_M_desk 21 = .ok (.iastore, 1) := by decide +kernel
theorem d_M_desk_22 : decode b_M_desk 22 = .ok (.aload_n 0, 1) := by decide +kernel
theorem d_M_desk_23 : decode b_M_desk 23 = .ok (.dup, 1) := by decide +kernel
theorem d_M_desk_24 : decode b_M_desk 24 = .ok (.getfield 55, 3) := by decide +kernel
theorem d_M_desk_27 : decode b_M_desk 27 = .ok (.iconst 1, 1) := by decide +kernel
theorem d_M_desk_28 : decode b_M_desk 28 = .ok (.iadd, 1) := by decide +kernel
theorem d_M_desk_29 : decode b_M_desk 29 = .ok (.putfield 55, 3) := by decide +kernel
theorem d_M_desk_32 : decode b_M_desk 32 = .ok (.aload_n 0, 1) := by decide +kernel
theorem d_M_desk_33 : decode b_M_desk 33 = .ok (.getfield 55, 3) := by decide +kernel
theorem d_M_desk_36 : decode b_M_desk 36 = .ok (.iconst 1, 1) := by decide +kernel
theorem d_M_desk_37 : decode b_M_desk 37 = .ok (.isub, 1) := by decide +kernel
theorem d_M_desk_38 : decode b_M_desk 38 = .ok (.ireturn, 1) := by decide +kernel
theorem d_M_add_0 : decode b_M_add 0 = .ok (.aload_n 0, 1) := by decide +kernel
theorem d_M_add_1 : decode b_M_add 1 = .ok (.getfield 59, 3) := by decide +kernel
theorem d_M_add_4 : decode b_M_add 4 = .ok (.istore 8, 2) := by decide +kernel
theorem d_M_add_6 : decode b_M_add 6 = .ok (.aload_n 0, 1) := by decide +kernel
theorem d_M_add_7 : decode b_M_add 7 = .ok (.getfield 20, 3) := by decide +kernel
theorem d_M_add_10 : decode b_M_add 10 = .ok (.iload 8, 2) := by decide +kernel
theorem d_M_add_12 : decode b_M_add 12 = .ok (.bipush 8, 2) := by decide +kernel
theorem d_M_add_14 : decode b_M_add 14 = .ok (.aload_n 0, 1) := by decide +kernel
theorem d_M_add_15 : decode b_M_add 15 = .ok (.getfield 13, 3) := by decide +kernel
theorem d_M_add_18 : decode b_M_add 18 = .ok (.iload_n 1, 1) := by decide +kernel
theorem d_M_add_19 : decode b_M_add 19 = .ok (.iaload, 1) := by decide +kernel
theorem d_M_add_20 : decode b_M_add 20 = .ok (.imul, 1) := by decide +kernel
theorem d_M_add_21 : decode b_M_add 21 = .ok (.iload_n 1, 1) := by decide +kernel
theorem d_M_add_22 : decode b_M_add 22 = .ok (.iadd, 1) := by decide +kernel
theorem d_M_add_23 : decode b_M_add 23 = .ok (.iastore, 1) := by decide +kernel
theorem d_M_add_24 : decode b_M_add 24 = .ok (.aload_n 0, 1) := by decide +kernel
theorem d_M_add_25 : decode b_M_add 25 = .ok (.getfield 13, 3) := by decide +kernel
theorem d_M_add_28 : decode b_M_add 28 = .ok (.iload_n 1, 1) := by decide +kernel
theorem d_M_add_29 : decode b_M_add 29 = .ok (.dup2, 1) := by decide +kernel
theorem d_M_add_30 : decode b_M_add 30 = .ok (.iaload, 1) := by decide +kernel
theorem d_M_add_31 : decode b_M_add 31 = .ok (.iconst 1, 1) := by decide +kernel
theorem d_M_add_32 : decode b_M_add 32 = .ok (.iadd, 1) := by decide +kernel
theorem d_M_add_33 : decode b_M_add 33 = .ok (.iastore, 1) := by decide +kernel
theorem d_M_add_34 : decode b_M_add 34 = .ok (.aload_n 0, 1) := by decide +kernel
theorem d_M_add_35 : decode b_M_add 35 = .ok (.getfield 9, 3) := by decide +kernel
theorem d_M_add_38 : decode b_M_add 38 = .ok (.iload_n 1, 1) := by decide +kernel
theorem d_M_add_39 : decode b_M_add 39 = .ok (.dup2, 1) := by decide +kernel
theorem d_M_add_40 : decode b_M_add 40 = .ok (.laload, 1) := by decide +kernel
theorem d_M_add_41 : decode b_M_add 41 = .ok (.lconst 1, 1) := by decide +kernel
theorem d_M_add_42 : decode b_M_add 42 = .ok (.ladd, 1) := by decide +kernel
theorem d_M_add_43 : decode b_M_add 43 = .ok (.lastore, 1) := by decide +kernel
theorem d_M_add_44 : decode b_M_add 44 = .ok (.aload_n 0, 1) := by decide +kernel
theorem d_M_add_45 : decode b_M_add 45 = .ok (.getfield 23, 3) := by decide +kernel
theorem d_M_add_48 : decode b_M_add 48 = .ok (.iload 8, 2) := by decide +kernel
theorem d_M_add_50 : decode b_M_add 50 = .ok (.iload_n 2, 1) := by decide +kernel
theorem d_M_add_51 : decode b_M_add 51 = .ok (.iastore, 1) := by decide +kernel
theorem d_M_add_52 : decode b_M_add 52 = .ok (.aload_n 0, 1) := by decide +kernel
theorem d_M_add_53 : decode b_M_add 53 = .ok (.getfield 26, 3) := by decide +kernel
theorem d_M_add_56 : decode b_M_add 56 = .ok (.iload 8, 2) := by decide +kernel
theorem d_M_add_58 : decode b_M_add 58 = .ok (.iload_n 3, 1) := by decide +kernel
theorem d_M_add_59 : decode b_M_add 59 = .ok (.iastore, 1) := by decide +kernel
theorem d_M_add_60 : decode b_M_add 60 = .ok (.aload_n 0, 1) := by decide +kernel
theorem d_M_add_61 : decode b_M_add 61 = .ok (.getfield 29, 3) := by decide +kernel
theorem d_M_add_64 : decode b_M_add 64 = .ok (.iload 8, 2) := by decide +kernel
theorem d_M_add_66 : decode b_M_add 66 = .ok (.lload 4, 2) := by decide +kernel
theorem d_M_add_68 : decode b_M_add 68 = .ok (.lastore, 1) := by decide +kernel
theorem d_M_add_69 : decode b_M_add 69 = .ok (.aload_n 0, 1) := by decide +kernel
theorem d_M_add_70 : decode b_M_add 70 = .ok (.getfield 32, 3) := by decide +kernel
theorem d_M_add_73 : decode b_M_add 73 = .ok (.iload 8, 2) := by decide +kernel
theorem d_M_add_75 : decode b_M_add 75 = .ok (.lload 6, 2) := by decide +kernel
theorem d_M_add_77 : decode b_M_add 77 = .ok (.lastore, 1) := by decide +kernel
theorem d_M_add_78 : decode b_M_add 78 = .ok (.aload_n 0, 1) := by decide +kernel
theorem d_M_add_79 : decode b_M_add 79 = .ok (.getfield 35, 3) := by decide +kernel
theorem d_M_add_82 : decode b_M_add 82 = .ok (.iload 8, 2) := by decide +kernel
theorem d_M_add_84 : decode b_M_add 84 = .ok (.aload_n 0, 1) := by decide +kernel
theorem d_M_add_85 : decode b_M_add 85 = .ok (.getfield 9, 3) := by decide +kernel
theorem d_M_add_88 : decode b_M_add 88 = .ok (.iload_n 1, 1) := by decide +kernel
theorem d_M_add_89 : decode b_M_add 89 = .ok (.laload, 1) := by decide +kernel
theorem d_M_add_90 : decode b_M_add 90 = .ok (.lastore, 1) := by decide +kernel
theorem d_M_add_91 : decode b_M_add 91 = .ok (.aload_n 0, 1) := by decide +kernel
theorem d_M_add_92 : decode b_M_add 92 = .ok (.getfield 38, 3) := by decide +kernel
theorem d_M_add_95 : decode b_M_add 95 = .ok (.iload 8, 2) := by decide +kernel
theorem d_M_add_97 : decode b_M_add 97 = .ok (.aload_n 0, 1) := by decide +kernel
theorem d_M_add_98 : decode b_M_add 98 = .ok (.getfield 17, 3) := by decide +kernel
theorem d_M_add_101 : decode b_M_add 101 = .ok (.iload_n 1, 1) := by decide +kernel
theorem d_M_add_102 : decode b_M_add 102 = .ok (.iaload, 1) := by decide +kernel
theorem d_M_add_103 : decode b_M_add 103 = .ok (.iastore, 1) := by decide +kernel
theorem d_M_add_104 : decode b_M_add 104 = .ok (.aload_n 0, 1) := by decide +kernel
theorem d_M_add_105 : decode b_M_add 105 = .ok (.getfield 46, 3) := by decide +kernel
theorem d_M_add_108 : decode b_M_add 108 = .ok (.iload_n 1, 1) := by decide +kernel
theorem d_M_add_109 : decode b_M_add 109 = .ok (.sipush 300, 3) := by decide +kernel
theorem d_M_add_112 : decode b_M_add 112 = .ok (.imul, 1) := by decide +kernel
theorem d_M_add_113 : decode b_M_add 113 = .ok (.iload 8, 2) := by decide +kernel
theorem d_M_add_115 : decode b_M_add 115 = .ok (.iadd, 1) := by decide +kernel
theorem d_M_add_116 : decode b_M_add 116 = .ok (.aload_n 0, 1) := by decide +kernel
theorem d_M_add_117 : decode b_M_add 117 = .ok (.getfield 17, 3) := by decide +kernel
theorem d_M_add_120 : decode b_M_add 120 = .ok (.iload_n 1, 1) := by decide +kernel
theorem d_M_add_121 : decode b_M_add 121 = .ok (.iaload, 1) := by decide +kernel
theorem d_M_add_122 : decode b_M_add 122 = .ok (.iconst (-1), 1) := by decide +kernel
theorem d_M_add_123 : decode b_M_add 123 = .ok (.if_icmp .ne 7, 3) := by decide +kernel
theorem d_M_add_126 : decode b_M_add 126 = .ok (.iconst 1, 1) := by decide +kernel
theorem d_M_add_127 : decode b_M_add 127 = .ok (.goto 4, 3) := by decide +kernel
theorem d_M_add_130 : decode b_M_add 130 = .ok (.iconst 0, 1) := by decide +kernel
theorem d_M_add_131 : decode b_M_add 131 = .ok (.bastore, 1) := by decide +kernel
theorem d_M_add_132 : decode b_M_add 132 = .ok (.aload_n 0, 1) := by decide +kernel
theorem d_M_add_133 : decode b_M_add 133 = .ok (.dup, 1) := by decide +kernel
theorem d_M_add_134 : decode b_M_add 134 = .ok (.getfield 59, 3) := by decide +kernel
theorem d_M_add_137 : decode b_M_add 137 = .ok (.iconst 1, 1) := by decide +kernel
theorem d_M_add_138 : decode b_M_add 138 = .ok (.iadd, 1) := by decide +kernel
theorem d_M_add_139 : decode b_M_add 139 = .ok (.putfield 59, 3) := by decide +kernel
theorem d_M_add_142 : decode b_M_add 142 = .ok (.iload 8, 2) := by decide +kernel
theorem d_M_add_144 : decode b_M_add 144 = .ok (.ireturn, 1) := by decide +kernel
theorem d_M_tell_0 : decode b_M_tell 0 = .ok (.aload_n 0, 1) := by decide +kernel
theorem d_M_tell_1 : decode b_M_tell 1 = .ok (.iload_n 1, 1) := by decide +kernel
theorem d_M_tell_2 : decode b_M_tell 2 = .ok (.invokevirtual 62, 3) := by decide +kernel
theorem d_M_tell_5 : decode b_M_tell 5 = .ok (.ifCond .eq 39, 3) := by decide +kernel
theorem d_M_tell_8 : decode b_M_tell 8 = .ok (.iload_n 2, 1) := by decide +kernel
theorem d_M_tell_9 : decode b_M_tell 9 = .ok (.ifCond .lt 35, 3) := by decide +kernel
theorem d_M_tell_12 : decode b_M_tell 12 = .ok (.iload_n 2, 1) := by decide +kernel
theorem d_M_tell_13 : decode b_M_tell 13 = .ok (.bipush 100, 2) := by decide +kernel
theorem d_M_tell_15 : decode b_M_tell 15 = .ok (.if_icmp .ge 29, 3) := by decide +kernel
theorem d_M_tell_18 : decode b_M_tell 18 = .ok (.iload_n 3, 1) := by decide +kernel
theorem d_M_tell_19 : decode b_M_tell 19 = .ok (.ifCond .lt 25, 3) := by decide +kernel
theorem d_M_tell_22 : decode b_M_tell 22 = .ok (.iload_n 3, 1) := by decide +kernel
theorem d_M_tell_23 : decode b_M_tell 23 = .ok (.bipush 10, 2) := by decide +kernel
theorem d_M_tell_25 : decode b_M_tell 25 = .ok (.if_icmp .ge 19, 3) := by decide +kernel
theorem d_M_tell_28 : decode b_M_tell 28 = .ok (.lload 4, 2) := by decide +kernel
theorem d_M_tell_30 : decode b_M_tell 30 = .ok (.lconst 0, 1) := by decide +kernel
theorem d_M_tell_31 : decode b_M_tell 31 = .ok (.lcmp, 1) := by decide +kernel
theorem d_M_tell_32 : decode b_M_tell 32 = .ok (.ifCond .lt 12, 3) := by decide +kernel
theorem d_M_tell_35 : decode b_M_tell 35 = .ok (.lload 4, 2) := by decide +kernel
theorem d_M_tell_37 : decode b_M_tell 37 = .ok (.ldc2_w 66, 3) := by decide +kernel
theorem d_M_tell_40 : decode b_M_tell 40 = .ok (.lcmp, 1) := by decide +kernel
theorem d_M_tell_41 : decode b_M_tell 41 = .ok (.ifCond .le 5, 3) := by decide +kernel
theorem d_M_tell_44 : decode b_M_tell 44 = .ok (.iconst (-1), 1) := by decide +kernel
theorem d_M_tell_45 : decode b_M_tell 45 = .ok (.ireturn, 1) := by decide +kernel
theorem d_M_tell_46 : decode b_M_tell 46 = .ok (.aload_n 0, 1) := by decide +kernel
theorem d_M_tell_47 : decode b_M_tell 47 = .ok (.getfield 59, 3) := by decide +kernel
theorem d_M_tell_50 : decode b_M_tell 50 = .ok (.sipush 300, 3) := by decide +kernel
theorem d_M_tell_53 : decode b_M_tell 53 = .ok (.if_icmp .ne 8, 3) := by decide +kernel
theorem d_M_tell_56 : decode b_M_tell 56 = .ok (.bipush (-2), 2) := by decide +kernel
theorem d_M_tell_58 : decode b_M_tell 58 = .ok (.goto 19, 3) := by decide +kernel
theorem d_M_tell_61 : decode b_M_tell 61 = .ok (.aload_n 0, 1) := by decide +kernel
theorem d_M_tell_62 : decode b_M_tell 62 = .ok (.getfield 20, 3) := by decide +kernel
theorem d_M_tell_65 : decode b_M_tell 65 = .ok (.aload_n 0, 1) := by decide +kernel
theorem d_M_tell_66 : decode b_M_tell 66 = .ok (.iload_n 1, 1) := by decide +kernel
theorem d_M_tell_67 : decode b_M_tell 67 = .ok (.iload_n 2, 1) := by decide +kernel
theorem d_M_tell_68 : decode b_M_tell 68 = .ok (.iload_n 3, 1) := by decide +kernel
theorem d_M_tell_69 : decode b_M_tell 69 = .ok (.lload 4, 2) := by decide +kernel
theorem d_M_tell_71 : decode b_M_tell 71 = .ok (.lload 6, 2) := by decide +kernel
theorem d_M_tell_73 : decode b_M_tell 73 = .ok (.invokevirtual 68, 3) := by decide +kernel
theorem d_M_tell_76 : decode b_M_tell 76 = .ok (.iaload, 1) := by decide +kernel
theorem d_M_tell_77 : decode b_M_tell 77 = .ok (.ireturn, 1) := by decide +kernel
theorem d_M_place_0 : decode b_M_place 0 = .ok (.iconst 0, 1) := by decide +kernel
theorem d_M_place_1 : decode b_M_place 1 = .ok (.istore_n 2, 1) := by decide +kernel
theorem d_M_place_2 : decode b_M_place 2 = .ok (.iload_n 2, 1) := by decide +kernel
theorem d_M_place_3 : decode b_M_place 3 = .ok (.aload_n 0, 1) := by decide +kernel
theorem d_M_place_4 : decode b_M_place 4 = .ok (.getfield 59, 3) := by decide +kernel
theorem d_M_place_7 : decode b_M_place 7 = .ok (.if_icmp .ge 21, 3) := by decide +kernel
theorem d_M_place_10 : decode b_M_place 10 = .ok (.aload_n 0, 1) := by decide +kernel
theorem d_M_place_11 : decode b_M_place 11 = .ok (.getfield 20, 3) := by decide +kernel
theorem d_M_place_14 : decode b_M_place 14 = .ok (.iload_n 2, 1) := by decide +kernel
theorem d_M_place_15 : decode b_M_place 15 = .ok (.iaload, 1) := by decide +kernel
theorem d_M_place_16 : decode b_M_place 16 = .ok (.iload_n 1, 1) := by decide +kernel
theorem d_M_place_17 : decode b_M_place 17 = .ok (.if_icmp .ne 5, 3) := by decide +kernel
theorem d_M_place_20 : decode b_M_place 20 = .ok (.iload_n 2, 1) := by decide +kernel
theorem d_M_place_21 : decode b_M_place 21 = .ok (.ireturn, 1) := by decide +kernel
theorem d_M_place_22 : decode b_M_place 22 = .ok (.iinc 2 1, 3) := by decide +kernel
theorem d_M_place_25 : decode b_M_place 25 = .ok (.goto (-23), 3) := by decide +kernel
theorem d_M_place_28 : decode b_M_place 28 = .ok (.iconst (-1), 1) := by decide +kernel
theorem d_M_place_29 : decode b_M_place 29 = .ok (.ireturn, 1) := by decide +kernel
theorem d_M_isKnown_0 : decode b_M_isKnown 0 = .ok (.aload_n 0, 1) := by decide +kernel
theorem d_M_isKnown_1 : decode b_M_isKnown 1 = .ok (.getfield 46, 3) := by decide +kernel
theorem d_M_isKnown_4 : decode b_M_isKnown 4 = .ok (.iload_n 1, 1) := by decide +kernel
theorem d_M_isKnown_5 : decode b_M_isKnown 5 = .ok (.sipush 300, 3) := by decide +kernel
theorem d_M_isKnown_8 : decode b_M_isKnown 8 = .ok (.imul, 1) := by decide +kernel
theorem d_M_isKnown_9 : decode b_M_isKnown 9 = .ok (.iload_n 2, 1) := by decide +kernel
theorem d_M_isKnown_10 : decode b_M_isKnown 10 = .ok (.iadd, 1) := by decide +kernel
theorem d_M_isKnown_11 : decode b_M_isKnown 11 = .ok (.baload, 1) := by decide +kernel
theorem d_M_isKnown_12 : decode b_M_isKnown 12 = .ok (.ifCond .eq 18, 3) := by decide +kernel
theorem d_M_isKnown_15 : decode b_M_isKnown 15 = .ok (.aload_n 0, 1) := by decide +kernel
theorem d_M_isKnown_16 : decode b_M_isKnown 16 = .ok (.getfield 35, 3) := by decide +kernel
theorem d_M_isKnown_19 : decode b_M_isKnown 19 = .ok (.iload_n 2, 1) := by decide +kernel
theorem d_M_isKnown_20 : decode b_M_isKnown 20 = .ok (.laload, 1) := by decide +kernel
theorem d_M_isKnown_21 : decode b_M_isKnown 21 = .ok (.lload_n 3, 1) := by decide +kernel
theorem d_M_isKnown_22 : decode b_M_isKnown 22 = .ok (.lcmp, 1) := by decide +kernel
theorem d_M_isKnown_23 : decode b_M_isKnown 23 = .ok (.ifCond .gt 7, 3) := by decide +kernel
theorem d_M_isKnown_26 : decode b_M_isKnown 26 = .ok (.iconst 1, 1) := by decide +kernel
theorem d_M_isKnown_27 : decode b_M_isKnown 27 = .ok (.goto 4, 3) := by decide +kernel
theorem d_M_isKnown_30 : decode b_M_isKnown 30 = .ok (.iconst 0, 1) := by decide +kernel
theorem d_M_isKnown_31 : decode b_M_isKnown 31 = .ok (.ireturn, 1) := by decide +kernel
theorem d_M_stands_0 : decode b_M_stands 0 = .ok (.aload_n 0, 1) := by decide +kernel
theorem d_M_stands_1 : decode b_M_stands 1 = .ok (.iload_n 1, 1) := by decide +kernel
theorem d_M_stands_2 : decode b_M_stands 2 = .ok (.iload_n 2, 1) := by decide +kernel
theorem d_M_stands_3 : decode b_M_stands 3 = .ok (.lload_n 3, 1) := by decide +kernel
theorem d_M_stands_4 : decode b_M_stands 4 = .ok (.invokevirtual 72, 3) := by decide +kernel
theorem d_M_stands_7 : decode b_M_stands 7 = .ok (.istore 5, 2) := by decide +kernel
theorem d_M_stands_9 : decode b_M_stands 9 = .ok (.iconst 0, 1) := by decide +kernel
theorem d_M_stands_10 : decode b_M_stands 10 = .ok (.istore 6, 2) := by decide +kernel
theorem d_M_stands_12 : decode b_M_stands 12 = .ok (.iload 6, 2) := by decide +kernel
theorem d_M_stands_14 : decode b_M_stands 14 = .ok (.aload_n 0, 1) := by decide +kernel
theorem d_M_stands_15 : decode b_M_stands 15 = .ok (.getfield 59, 3) := by decide +kernel
theorem d_M_stands_18 : decode b_M_stands 18 = .ok (.if_icmp .ge 48, 3) := by decide +kernel
theorem d_M_stands_21 : decode b_M_stands 21 = .ok (.iload 5, 2) := by decide +kernel
theorem d_M_stands_23 : decode b_M_stands 23 = .ok (.ifCond .eq 43, 3) := by decide +kernel
theorem d_M_stands_26 : decode b_M_stands 26 = .ok (.aload_n 0, 1) := by decide +kernel
theorem d_M_stands_27 : decode b_M_stands 27 = .ok (.getfield 42, 3) := by decide +kernel
theorem d_M_stands_30 : decode b_M_stands 30 = .ok (.iload 6, 2) := by decide +kernel
theorem d_M_stands_32 : decode b_M_stands 32 = .ok (.sipush 300, 3) := by decide +kernel
theorem d_M_stands_35 : decode b_M_stands 35 = .ok (.imul, 1) := by decide +kernel
theorem d_M_stands_36 : decode b_M_stands 36 = .ok (.iload_n 2, 1) := by decide +kernel
theorem d_M_stands_37 : decode b_M_stands 37 = .ok (.iadd, 1) := by decide +kernel
theorem d_M_stands_38 : decode b_M_stands 38 = .ok (.baload, 1) := by decide +kernel
theorem d_M_stands_39 : decode b_M_stands 39 = .ok (.ifCond .eq 14, 3) := by decide +kernel
theorem d_M_stands_42 : decode b_M_stands 42 = .ok (.aload_n 0, 1) := by decide +kernel
theorem d_M_stands_43 : decode b_M_stands 43 = .ok (.iload_n 1, 1) := by decide +kernel
theorem d_M_stands_44 : decode b_M_stands 44 = .ok (.iload 6, 2) := by decide +kernel
theorem d_M_stands_46 : decode b_M_stands 46 = .ok (.lload_n 3, 1) := by decide +kernel
theorem d_M_stands_47 : decode b_M_stands 47 = .ok (.invokevirtual 72, 3) := by decide +kernel
theorem d_M_stands_50 : decode b_M_stands 50 = .ok (.ifCond .ne 7, 3) := by decide +kernel
theorem d_M_stands_53 : decode b_M_stands 53 = .ok (.iconst 1, 1) := by decide +kernel
theorem d_M_stands_54 : decode b_M_stands 54 = .ok (.goto 4, 3) := by decide +kernel
theorem d_M_stands_57 : decode b_M_stands 57 = .ok (.iconst 0, 1) := by decide +kernel
theorem d_M_stands_58 : decode b_M_stands 58 = .ok (.istore 5, 2) := by decide +kernel
theorem d_M_stands_60 : decode b_M_stands 60 = .ok (.iinc 6 1, 3) := by decide +kernel
theorem d_M_stands_63 : decode b_M_stands 63 = .ok (.goto (-51), 3) := by decide +kernel
theorem d_M_stands_66 : decode b_M_stands 66 = .ok (.iload 5, 2) := by decide +kernel
theorem d_M_stands_68 : decode b_M_stands 68 = .ok (.ireturn, 1) := by decide +kernel
theorem d_M_look_0 : decode b_M_look 0 = .ok (.iconst 0, 1) := by decide +kernel
theorem d_M_look_1 : decode b_M_look 1 = .ok (.istore_n 2, 1) := by decide +kernel
theorem d_M_look_2 : decode b_M_look 2 = .ok (.iload_n 2, 1) := by decide +kernel
theorem d_M_look_3 : decode b_M_look 3 = .ok (.aload_n 0, 1) := by decide +kernel
theorem d_M_look_4 : decode b_M_look 4 = .ok (.getfield 59, 3) := by decide +kernel
theorem d_M_look_7 : decode b_M_look 7 = .ok (.if_icmp .ge 27, 3) := by decide +kernel
theorem d_M_look_10 : decode b_M_look 10 = .ok (.aload_n 0, 1) := by decide +kernel
theorem d_M_look_11 : decode b_M_look 11 = .ok (.getfield 52, 3) := by decide +kernel
theorem d_M_look_14 : decode b_M_look 14 = .ok (.iload_n 2, 1) := by decide +kernel
theorem d_M_look_15 : decode b_M_look 15 = .ok (.aload_n 0, 1) := by decide +kernel
theorem d_M_look_16 : decode b_M_look 16 = .ok (.getfield 46, 3) := by decide +kernel
theorem d_M_look_19 : decode b_M_look 19 = .ok (.iload_n 1, 1) := by decide +kernel
theorem d_M_look_20 : decode b_M_look 20 = .ok (.sipush 300, 3) := by decide +kernel
theorem d_M_look_23 : decode b_M_look 23 = .ok (.imul, 1) := by decide +kernel
theorem d_M_look_24 : decode b_M_look 24 = .ok (.iload_n 2, 1) := by decide +kernel
theorem d_M_look_25 : decode b_M_look 25 = .ok (.iadd, 1) := by decide +kernel
theorem d_M_look_26 : decode b_M_look 26 = .ok (.baload, 1) := by decide +kernel
theorem d_M_look_27 : decode b_M_look 27 = .ok (.bastore, 1) := by decide +kernel
theorem d_M_look_28 : decode b_M_look 28 = .ok (.iinc 2 1, 3) := by decide +kernel
theorem d_M_look_31 : decode b_M_look 31 = .ok (.goto (-29), 3) := by decide +kernel
theorem d_M_look_34 : decode b_M_look 34 = .ok (.iconst 0, 1) := by decide +kernel
theorem d_M_look_35 : decode b_M_look 35 = .ok (.istore_n 2, 1) := by decide +kernel
theorem d_M_look_36 : decode b_M_look 36 = .ok (.iload_n 2, 1) := by decide +kernel
theorem d_M_look_37 : decode b_M_look 37 = .ok (.aload_n 0, 1) := by decide +kernel
theorem d_M_look_38 : decode b_M_look 38 = .ok (.getfield 59, 3) := by decide +kernel
theorem d_M_look_41 : decode b_M_look 41 = .ok (.if_icmp .ge 75, 3) := by decide +kernel
theorem d_M_look_44 : decode b_M_look 44 = .ok (.iconst 0, 1) := by decide +kernel
theorem d_M_look_45 : decode b_M_look 45 = .ok (.istore_n 3, 1) := by decide +kernel
theorem d_M_look_46 : decode b_M_look 46 = .ok (.iload_n 3, 1) := by decide +kernel
theorem d_M_look_47 : decode b_M_look 47 = .ok (.aload_n 0, 1) := by decide +kernel
theorem d_M_look_48 : decode b_M_look 48 = .ok (.getfield 59, 3) := by decide +kernel
theorem d_M_look_51 : decode b_M_look 51 = .ok (.if_icmp .ge 59, 3) := by decide +kernel
theorem d_M_look_54 : decode b_M_look 54 = .ok (.aload_n 0, 1) := by decide +kernel
theorem d_M_look_55 : decode b_M_look 55 = .ok (.getfield 46, 3) := by decide +kernel
theorem d_M_look_58 : decode b_M_look 58 = .ok (.iload_n 1, 1) := by decide +kernel
theorem d_M_look_59 : decode b_M_look 59 = .ok (.sipush 300, 3) := by decide +kernel
theorem d_M_look_62 : decode b_M_look 62 = .ok (.imul, 1) := by decide +kernel
theorem d_M_look_63 : decode b_M_look 63 = .ok (.iload_n 2, 1) := by decide +kernel
theorem d_M_look_64 : decode b_M_look 64 = .ok (.iadd, 1) := by decide +kernel
theorem d_M_look_65 : decode b_M_look 65 = .ok (.baload, 1) := by decide +kernel
theorem d_M_look_66 : decode b_M_look 66 = .ok (.ifCond .eq 44, 3) := by decide +kernel
theorem d_M_look_69 : decode b_M_look 69 = .ok (.aload_n 0, 1) := by decide +kernel
theorem d_M_look_70 : decode b_M_look 70 = .ok (.getfield 52, 3) := by decide +kernel
theorem d_M_look_73 : decode b_M_look 73 = .ok (.iload_n 3, 1) := by decide +kernel
theorem d_M_look_74 : decode b_M_look 74 = .ok (.aload_n 0, 1) := by decide +kernel
theorem d_M_look_75 : decode b_M_look 75 = .ok (.getfield 52, 3) := by decide +kernel
theorem d_M_look_78 : decode b_M_look 78 = .ok (.iload_n 3, 1) := by decide +kernel
theorem d_M_look_79 : decode b_M_look 79 = .ok (.baload, 1) := by decide +kernel
theorem d_M_look_80 : decode b_M_look 80 = .ok (.ifCond .eq 22, 3) := by decide +kernel
theorem d_M_look_83 : decode b_M_look 83 = .ok (.aload_n 0, 1) := by decide +kernel
theorem d_M_look_84 : decode b_M_look 84 = .ok (.getfield 42, 3) := by decide +kernel
theorem d_M_look_87 : decode b_M_look 87 = .ok (.iload_n 2, 1) := by decide +kernel
theorem d_M_look_88 : decode b_M_look 88 = .ok (.sipush 300, 3) := by decide +kernel
theorem d_M_look_91 : decode b_M_look 91 = .ok (.imul, 1) := by decide +kernel
theorem d_M_look_92 : decode b_M_look 92 = .ok (.iload_n 3, 1) := by decide +kernel
theorem d_M_look_93 : decode b_M_look 93 = .ok (.iadd, 1) := by decide +kernel
theorem d_M_look_94 : decode b_M_look 94 = .ok (.baload, 1) := by decide +kernel
theorem d_M_look_95 : decode b_M_look 95 = .ok (.ifCond .ne 7, 3) := by decide +kernel
theorem d_M_look_98 : decode b_M_look 98 = .ok (.iconst 1, 1) := by decide +kernel
theorem d_M_look_99 : decode b_M_look 99 = .ok (.goto 4, 3) := by decide +kernel
theorem d_M_look_102 : decode b_M_look 102 = .ok (.iconst 0, 1) := by decide +kernel
theorem d_M_look_103 : decode b_M_look 103 = .ok (.bastore, 1) := by decide +kernel
theorem d_M_look_104 : decode b_M_look 104 = .ok (.iinc 3 1, 3) := by decide +kernel
theorem d_M_look_107 : decode b_M_look 107 = .ok (.goto (-61), 3) := by decide +kernel
theorem d_M_look_110 : decode b_M_look 110 = .ok (.iinc 2 1, 3) := by decide +kernel
theorem d_M_look_113 : decode b_M_look 113 = .ok (.goto (-77), 3) := by decide +kernel
theorem d_M_look_116 : decode b_M_look 116 = .ok (.return_, 1) := by decide +kernel
theorem d_M_correct_0 : decode b_M_correct 0 = .ok (.aload_n 0, 1) := by decide +kernel
theorem d_M_correct_1 : decode b_M_correct 1 = .ok (.iload_n 1, 1) := by decide +kernel
theorem d_M_correct_2 : decode b_M_correct 2 = .ok (.invokevirtual 62, 3) := by decide +kernel
theorem d_M_correct_5 : decode b_M_correct 5 = .ok (.ifCond .eq 11, 3) := by decide +kernel
theorem d_M_correct_8 : decode b_M_correct 8 = .ok (.aload_n 0, 1) := by decide +kernel
theorem d_M_correct_9 : decode b_M_correct 9 = .ok (.iload_n 2, 1) := by decide +kernel
theorem d_M_correct_10 : decode b_M_correct 10 = .ok (.invokevirtual 76, 3) := by decide +kernel
theorem d_M_correct_13 : decode b_M_correct 13 = .ok (.goto 4, 3) := by decide +kernel
theorem d_M_correct_16 : decode b_M_correct 16 = .ok (.iconst (-1), 1) := by decide +kernel
theorem d_M_correct_17 : decode b_M_correct 17 = .ok (.istore 5, 2) := by decide +kernel
theorem d_M_correct_19 : decode b_M_correct 19 = .ok (.iload 5, 2) := by decide +kernel
theorem d_M_correct_21 : decode b_M_correct 21 = .ok (.iconst (-1), 1) := by decide +kernel
theorem d_M_correct_22 : decode b_M_correct 22 = .ok (.if_icmp .ne 5, 3) := by decide +kernel
theorem d_M_correct_25 : decode b_M_correct 25 = .ok (.iconst (-1), 1) := by decide +kernel
theorem d_M_correct_26 : decode b_M_correct 26 = .ok (.ireturn, 1) := by decide +kernel
theorem d_M_correct_27 : decode b_M_correct 27 = .ok (.aload_n 0, 1) := by decide +kernel
theorem d_M_correct_28 : decode b_M_correct 28 = .ok (.iload_n 1, 1) := by decide +kernel
theorem d_M_correct_29 : decode b_M_correct 29 = .ok (.invokevirtual 80, 3) := by decide +kernel
theorem d_M_correct_32 : decode b_M_correct 32 = .ok (.aload_n 0, 1) := by decide +kernel
theorem d_M_correct_33 : decode b_M_correct 33 = .ok (.getfield 52, 3) := by decide +kernel
theorem d_M_correct_36 : decode b_M_correct 36 = .ok (.iload 5, 2) := by decide +kernel
theorem d_M_correct_38 : decode b_M_correct 38 = .ok (.baload, 1) := by decide +kernel
theorem d_M_correct_39 : decode b_M_correct 39 = .ok (.ifCond .ne 5, 3) := by decide +kernel
theorem d_M_correct_42 : decode b_M_correct 42 = .ok (.iconst (-1), 1) := by decide +kernel
theorem d_M_correct_43 : decode b_M_correct 43 = .ok (.ireturn, 1) := by decide +kernel
theorem d_M_correct_44 : decode b_M_correct 44 = .ok (.aload_n 0, 1) := by decide +kernel
theorem d_M_correct_45 : decode b_M_correct 45 = .ok (.getfield 59, 3) := by decide +kernel
theorem d_M_correct_48 : decode b_M_correct 48 = .ok (.sipush 300, 3) := by decide +kernel
theorem d_M_correct_51 : decode b_M_correct 51 = .ok (.if_icmp .ne 6, 3) := by decide +kernel
theorem d_M_correct_54 : decode b_M_correct 54 = .ok (.bipush (-2), 2) := by decide +kernel
theorem d_M_correct_56 : decode b_M_correct 56 = .ok (.ireturn, 1) := by decide +kernel
theorem d_M_correct_57 : decode b_M_correct 57 = .ok (.aload_n 0, 1) := by decide +kernel
theorem d_M_correct_58 : decode b_M_correct 58 = .ok (.iload_n 1, 1) := by decide +kernel
