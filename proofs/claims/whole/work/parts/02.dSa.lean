theorem d_S_init_0 : decode b_S_init 0 = .ok (.aload_n 0, 1) := by decide +kernel
theorem d_S_init_1 : decode b_S_init 1 = .ok (.invokespecial 3, 3) := by decide +kernel
theorem d_S_init_4 : decode b_S_init 4 = .ok (.aload_n 0, 1) := by decide +kernel
theorem d_S_init_5 : decode b_S_init 5 = .ok (.iconst 5, 1) := by decide +kernel
theorem d_S_init_6 : decode b_S_init 6 = .ok (.newarray .long, 2) := by decide +kernel
theorem d_S_init_8 : decode b_S_init 8 = .ok (.putfield 11, 3) := by decide +kernel
theorem d_S_init_11 : decode b_S_init 11 = .ok (.return_, 1) := by decide +kernel
theorem d_S_has_0 : decode b_S_has 0 = .ok (.iload_n 1, 1) := by decide +kernel
theorem d_S_has_1 : decode b_S_has 1 = .ok (.invokestatic 15, 3) := by decide +kernel
theorem d_S_has_4 : decode b_S_has 4 = .ok (.ifCond .eq 28, 3) := by decide +kernel
theorem d_S_has_7 : decode b_S_has 7 = .ok (.aload_n 0, 1) := by decide +kernel
theorem d_S_has_8 : decode b_S_has 8 = .ok (.getfield 11, 3) := by decide +kernel
theorem d_S_has_11 : decode b_S_has 11 = .ok (.iload_n 1, 1) := by decide +kernel
theorem d_S_has_12 : decode b_S_has 12 = .ok (.bipush 64, 2) := by decide +kernel
theorem d_S_has_14 : decode b_S_has 14 = .ok (.idiv, 1) := by decide +kernel
theorem d_S_has_15 : decode b_S_has 15 = .ok (.laload, 1) := by decide +kernel
theorem d_S_has_16 : decode b_S_has 16 = .ok (.lconst 1, 1) := by decide +kernel
theorem d_S_has_17 : decode b_S_has 17 = .ok (.iload_n 1, 1) := by decide +kernel
theorem d_S_has_18 : decode b_S_has 18 = .ok (.bipush 64, 2) := by decide +kernel
theorem d_S_has_20 : decode b_S_has 20 = .ok (.irem, 1) := by decide +kernel
theorem d_S_has_21 : decode b_S_has 21 = .ok (.lshl, 1) := by decide +kernel
theorem d_S_has_22 : decode b_S_has 22 = .ok (.land, 1) := by decide +kernel
theorem d_S_has_23 : decode b_S_has 23 = .ok (.lconst 0, 1) := by decide +kernel
theorem d_S_has_24 : decode b_S_has 24 = .ok (.lcmp, 1) := by decide +kernel
theorem d_S_has_25 : decode b_S_has 25 = .ok (.ifCond .eq 7, 3) := by decide +kernel
theorem d_S_has_28 : decode b_S_has 28 = .ok (.iconst 1, 1) := by decide +kernel
theorem d_S_has_29 : decode b_S_has 29 = .ok (.goto 4, 3) := by decide +kernel
theorem d_S_has_32 : decode b_S_has 32 = .ok (.iconst 0, 1) := by decide +kernel
theorem d_S_has_33 : decode b_S_has 33 = .ok (.ireturn, 1) := by decide +kernel
theorem d_S_add_0 : decode b_S_add 0 = .ok (.iload_n 1, 1) := by decide +kernel
theorem d_S_add_1 : decode b_S_add 1 = .ok (.invokestatic 15, 3) := by decide +kernel
theorem d_S_add_4 : decode b_S_add 4 = .ok (.ifCond .eq 21, 3) := by decide +kernel
theorem d_S_add_7 : decode b_S_add 7 = .ok (.aload_n 0, 1) := by decide +kernel
theorem d_S_add_8 : decode b_S_add 8 = .ok (.getfield 11, 3) := by decide +kernel
theorem d_S_add_11 : decode b_S_add 11 = .ok (.iload_n 1, 1) := by decide +kernel
theorem d_S_add_12 : decode b_S_add 12 = .ok (.bipush 64, 2) := by decide +kernel
theorem d_S_add_14 : decode b_S_add 14 = .ok (.idiv, 1) := by decide +kernel
theorem d_S_add_15 : decode b_S_add 15 = .ok (.dup2, 1) := by decide +kernel
theorem d_S_add_16 : decode b_S_add 16 = .ok (.laload, 1) := by decide +kernel
theorem d_S_add_17 : decode b_S_add 17 = .ok (.lconst 1, 1) := by decide +kernel
theorem d_S_add_18 : decode b_S_add 18 = .ok (.iload_n 1, 1) := by decide +kernel
theorem d_S_add_19 : decode b_S_add 19 = .ok (.bipush 64, 2) := by decide +kernel
theorem d_S_add_21 : decode b_S_add 21 = .ok (.irem, 1) := by decide +kernel
theorem d_S_add_22 : decode b_S_add 22 = .ok (.lshl, 1) := by decide +kernel
theorem d_S_add_23 : decode b_S_add 23 = .ok (.lor, 1) := by decide +kernel
theorem d_S_add_24 : decode b_S_add 24 = .ok (.lastore, 1) := by decide +kernel
theorem d_S_add_25 : decode b_S_add 25 = .ok (.return_, 1) := by decide +kernel
theorem d_S_isPlace_0 : decode b_S_isPlace 0 = .ok (.iload_n 0, 1) := by decide +kernel
theorem d_S_isPlace_1 : decode b_S_isPlace 1 = .ok (.ifCond .lt 14, 3) := by decide +kernel
theorem d_S_isPlace_4 : decode b_S_isPlace 4 = .ok (.iload_n 0, 1) := by decide +kernel
theorem d_S_isPlace_5 : decode b_S_isPlace 5 = .ok (.sipush 300, 3) := by decide +kernel
theorem d_S_isPlace_8 : decode b_S_isPlace 8 = .ok (.if_icmp .ge 7, 3) := by decide +kernel
theorem d_S_isPlace_11 : decode b_S_isPlace 11 = .ok (.iconst 1, 1) := by decide +kernel
theorem d_S_isPlace_12 : decode b_S_isPlace 12 = .ok (.goto 4, 3) := by decide +kernel
theorem d_S_isPlace_15 : decode b_S_isPlace 15 = .ok (.iconst 0, 1) := by decide +kernel
theorem d_S_isPlace_16 : decode b_S_isPlace 16 = .ok (.ireturn, 1) := by decide +kernel
theorem d_S_addAll_0 : decode b_S_addAll 0 = .ok (.iconst 0, 1) := by decide +kernel
theorem d_S_addAll_1 : decode b_S_addAll 1 = .ok (.istore_n 2, 1) := by decide +kernel
theorem d_S_addAll_2 : decode b_S_addAll 2 = .ok (.iload_n 2, 1) := by decide +kernel
theorem d_S_addAll_3 : decode b_S_addAll 3 = .ok (.iconst 5, 1) := by decide +kernel
theorem d_S_addAll_4 : decode b_S_addAll 4 = .ok (.if_icmp .ge 24, 3) := by decide +kernel
theorem d_S_addAll_7 : decode b_S_addAll 7 = .ok (.aload_n 0, 1) := by decide +kernel
theorem d_S_addAll_8 : decode b_S_addAll 8 = .ok (.getfield 11, 3) := by decide +kernel
theorem d_S_addAll_11 : decode b_S_addAll 11 = .ok (.iload_n 2, 1) := by decide +kernel
theorem d_S_addAll_12 : decode b_S_addAll 12 = .ok (.dup2, 1) := by decide +kernel
theorem d_S_addAll_13 : decode b_S_addAll 13 = .ok (.laload, 1) := by decide +kernel
theorem d_S_addAll_14 : decode b_S_addAll 14 = .ok (.aload_n 1, 1) := by decide +kernel
theorem d_S_addAll_15 : decode b_S_addAll 15 = .ok (.getfield 11, 3) := by decide +kernel
theorem d_S_addAll_18 : decode b_S_addAll 18 = .ok (.iload_n 2, 1) := by decide +kernel
theorem d_S_addAll_19 : decode b_S_addAll 19 = .ok (.laload, 1) := by decide +kernel
theorem d_S_addAll_20 : decode b_S_addAll 20 = .ok (.lor, 1) := by decide +kernel
theorem d_S_addAll_21 : decode b_S_addAll 21 = .ok (.lastore, 1) := by decide +kernel
theorem d_S_addAll_22 : decode b_S_addAll 22 = .ok (.iinc 2 1, 3) := by decide +kernel
theorem d_S_addAll_25 : decode b_S_addAll 25 = .ok (.goto (-23), 3) := by decide +kernel
theorem d_S_addAll_28 : decode b_S_addAll 28 = .ok (.return_, 1) := by decide +kernel
theorem d_S_clear_0 : decode b_S_clear 0 = .ok (.iconst 0, 1) := by decide +kernel
theorem d_S_clear_1 : decode b_S_clear 1 = .ok (.istore_n 1, 1) := by decide +kernel
theorem d_S_clear_2 : decode b_S_clear 2 = .ok (.iload_n 1, 1) := by decide +kernel
theorem d_S_clear_3 : decode b_S_clear 3 = .ok (.iconst 5, 1) := by decide +kernel
theorem d_S_clear_4 : decode b_S_clear 4 = .ok (.if_icmp .ge 16, 3) := by decide +kernel
theorem d_S_clear_7 : decode b_S_clear 7 = .ok (.aload_n 0, 1) := by decide +kernel
theorem d_S_clear_8 : decode b_S_clear 8 = .ok (.getfield 11, 3) := by decide +kernel
theorem d_S_clear_11 : decode b_S_clear 11 = .ok (.iload_n 1, 1) := by decide +kernel
theorem d_S_clear_12 : decode b_S_clear 12 = .ok (.lconst 0, 1) := by decide +kernel
theorem d_S_clear_13 : decode b_S_clear 13 = .ok (.lastore, 1) := by decide +kernel
theorem d_S_clear_14 : decode b_S_clear 14 = .ok (.iinc 1 1, 3) := by decide +kernel
theorem d_S_clear_17 : decode b_S_clear 17 = .ok (.goto (-15), 3) := by decide +kernel
theorem d_S_clear_20 : decode b_S_clear 20 = .ok (.return_, 1) := by decide +kernel
theorem d_S_size_0 : decode b_S_size 0 = .ok (.iconst 0, 1) := by decide +kernel
theorem d_S_size_1 : decode b_S_size 1 = .ok (.istore_n 1, 1) := by decide +kernel
theorem d_S_size_2 : decode b_S_size 2 = .ok (.iconst 0, 1) := by decide +kernel
theorem d_S_size_3 : decode b_S_size 3 = .ok (.istore_n 2, 1) := by decide +kernel
theorem d_S_size_4 : decode b_S_size 4 = .ok (.iload_n 2, 1) := by decide +kernel
theorem d_S_size_5 : decode b_S_size 5 = .ok (.iconst 5, 1) := by decide +kernel
theorem d_S_size_6 : decode b_S_size 6 = .ok (.if_icmp .ge 21, 3) := by decide +kernel
theorem d_S_size_9 : decode b_S_size 9 = .ok (.iload_n 1, 1) := by decide +kernel
theorem d_S_size_10 : decode b_S_size 10 = .ok (.aload_n 0, 1) := by decide +kernel
theorem d_S_size_11 : decode b_S_size 11 = .ok (.getfield 11, 3) := by decide +kernel
theorem d_S_size_14 : decode b_S_size 14 = .ok (.iload_n 2, 1) := by decide +kernel
theorem d_S_size_15 : decode b_S_size 15 = .ok (.laload, 1) := by decide +kernel
theorem d_S_size_16 : decode b_S_size 16 = .ok (.invokestatic 19, 3) := by decide +kernel
theorem d_S_size_19 : decode b_S_size 19 = .ok (.iadd, 1) := by decide +kernel
theorem d_S_size_20 : decode b_S_size 20 = .ok (.istore_n 1, 1) := by decide +kernel
theorem d_S_size_21 : decode b_S_size 21 = .ok (.iinc 2 1, 3) := by decide +kernel
theorem d_S_size_24 : decode b_S_size 24 = .ok (.goto (-20), 3) := by decide +kernel
theorem d_S_size_27 : decode b_S_size 27 = .ok (.iload_n 1, 1) := by decide +kernel
theorem d_S_size_28 : decode b_S_size 28 = .ok (.ireturn, 1) := by decide +kernel
theorem d_S_isSameAs_0 : decode b_S_isSameAs 0 = .ok (.iconst 0, 1) := by decide +kernel
theorem d_S_isSameAs_1 : decode b_S_isSameAs 1 = .ok (.istore_n 2, 1) := by decide +kernel
theorem d_S_isSameAs_2 : decode b_S_isSameAs 2 = .ok (.iload_n 2, 1) := by decide +kernel
theorem d_S_isSameAs_3 : decode b_S_isSameAs 3 = .ok (.iconst 5, 1) := by decide +kernel
theorem d_S_isSameAs_4 : decode b_S_isSameAs 4 = .ok (.if_icmp .ge 27, 3) := by decide +kernel
theorem d_S_isSameAs_7 : decode b_S_isSameAs 7 = .ok (.aload_n 0, 1) := by decide +kernel
theorem d_S_isSameAs_8 : decode b_S_isSameAs 8 = .ok (.getfield 11, 3) := by decide +kernel
theorem d_S_isSameAs_11 : decode b_S_isSameAs 11 = .ok (.iload_n 2, 1) := by decide +kernel
theorem d_S_isSameAs_12 : decode b_S_isSameAs 12 = .ok (.laload, 1) := by decide +kernel
theorem d_S_isSameAs_13 : decode b_S_isSameAs 13 = .ok (.aload_n 1, 1) := by decide +kernel
theorem d_S_isSameAs_14 : decode b_S_isSameAs 14 = .ok (.getfield 11, 3) := by decide +kernel
theorem d_S_isSameAs_17 : decode b_S_isSameAs 17 = .ok (.iload_n 2, 1) := by decide +kernel
theorem d_S_isSameAs_18 : decode b_S_isSameAs 18 = .ok (.laload, 1) := by decide +kernel
theorem d_S_isSameAs_19 : decode b_S_isSameAs 19 = .ok (.lcmp, 1) := by decide +kernel
theorem d_S_isSameAs_20 : decode b_S_isSameAs 20 = .ok (.ifCond .eq 5, 3) := by decide +kernel
theorem d_S_isSameAs_23 : decode b_S_isSameAs 23 = .ok (.iconst 0, 1) := by decide +kernel
theorem d_S_isSameAs_24 : decode b_S_isSameAs 24 = .ok (.ireturn, 1) := by decide +kernel
theorem d_S_isSameAs_25 : decode b_S_isSameAs 25 = .ok (.iinc 2 1, 3) := by decide +kernel
theorem d_S_isSameAs_28 : decode b_S_isSameAs 28 = .ok (.goto (-26), 3) := by decide +kernel
theorem d_S_isSameAs_31 : decode b_S_isSameAs 31 = .ok (.iconst 1, 1) := by decide +kernel
theorem d_S_isSameAs_32 : decode b_S_isSameAs 32 = .ok (.ireturn, 1) := by decide +kernel
theorem d_K_init_0 : decode b_K_init 0 = .ok (.aload_n 0, 1) := by decide +kernel
theorem d_K_init_1 : decode b_K_init 1 = .ok (.invokespecial 3, 3) := by decide +kernel
theorem d_K_init_4 : decode b_K_init 4 = .ok (.aload_n 0, 1) := by decide +kernel
theorem d_K_init_5 : decode b_K_init 5 = .ok (.new 9, 3) := by decide +kernel
theorem d_K_init_8 : decode b_K_init 8 = .ok (.dup, 1) := by decide +kernel
theorem d_K_init_9 : decode b_K_init 9 = .ok (.invokespecial 11, 3) := by decide +kernel
theorem d_K_init_12 : decode b_K_init 12 = .ok (.putfield 12, 3) := by decide +kernel
theorem d_K_init_15 : decode b_K_init 15 = .ok (.aload_n 0, 1) := by decide +kernel
theorem d_K_init_16 : decode b_K_init 16 = .ok (.new 9, 3) := by decide +kernel
theorem d_K_init_19 : decode b_K_init 19 = .ok (.dup, 1) := by decide +kernel
theorem d_K_init_20 : decode b_K_init 20 = .ok (.invokespecial 11, 3) := by decide +kernel
theorem d_K_init_23 : decode b_K_init 23 = .ok (.putfield 18, 3) := by decide +kernel
theorem d_K_init_26 : decode b_K_init 26 = .ok (.aload_n 0, 1) := by decide +kernel
theorem d_K_init_27 : decode b_K_init 27 = .ok (.iconst (-1), 1) := by decide +kernel
theorem d_K_init_28 : decode b_K_init 28 = .ok (.putfield 21, 3) := by decide +kernel
theorem d_K_init_31 : decode b_K_init 31 = .ok (.aload_n 0, 1) := by decide +kernel
theorem d_K_init_32 : decode b_K_init 32 = .ok (.iload_n 1, 1) := by decide +kernel
theorem d_K_init_33 : decode b_K_init 33 = .ok (.putfield 25, 3) := by decide +kernel
theorem d_K_init_36 : decode b_K_init 36 = .ok (.return_, 1) := by decide +kernel
theorem d_K_nextNumber_0 : decode b_K_nextNumber 0 = .ok (.bipush 8, 2) := by decide +kernel
theorem d_K_nextNumber_2 : decode b_K_nextNumber 2 = .ok (.aload_n 0, 1) := by decide +kernel
theorem d_K_nextNumber_3 : decode b_K_nextNumber 3 = .ok (.getfield 28, 3) := by decide +kernel
theorem d_K_nextNumber_6 : decode b_K_nextNumber 6 = .ok (.imul, 1) := by decide +kernel
theorem d_K_nextNumber_7 : decode b_K_nextNumber 7 = .ok (.aload_n 0, 1) := by decide +kernel
theorem d_K_nextNumber_8 : decode b_K_nextNumber 8 = .ok (.getfield 25, 3) := by decide +kernel
theorem d_K_nextNumber_11 : decode b_K_nextNumber 11 = .ok (.iadd, 1) := by decide +kernel
theorem d_K_nextNumber_12 : decode b_K_nextNumber 12 = .ok (.ireturn, 1) := by decide +kernel
theorem d_K_nextTime_0 : decode b_K_nextTime 0 = .ok (.aload_n 0, 1) := by decide +kernel
theorem d_K_nextTime_1 : decode b_K_nextTime 1 = .ok (.getfield 31, 3) := by decide +kernel
theorem d_K_nextTime_4 : decode b_K_nextTime 4 = .ok (.iconst 1, 1) := by decide +kernel
theorem d_K_nextTime_5 : decode b_K_nextTime 5 = .ok (.iadd, 1) := by decide +kernel
theorem d_K_nextTime_6 : decode b_K_nextTime 6 = .ok (.ireturn, 1) := by decide +kernel
theorem d_K_hear_0 : decode b_K_hear 0 = .ok (.aload_n 0, 1) := by decide +kernel
theorem d_K_hear_1 : decode b_K_hear 1 = .ok (.dup, 1) := by decide +kernel
theorem d_K_hear_2 : decode b_K_hear 2 = .ok (.getfield 28, 3) := by decide +kernel
theorem d_K_hear_5 : decode b_K_hear 5 = .ok (.iconst 1, 1) := by decide +kernel
theorem d_K_hear_6 : decode b_K_hear 6 = .ok (.iadd, 1) := by decide +kernel
theorem d_K_hear_7 : decode b_K_hear 7 = .ok (.putfield 28, 3) := by decide +kernel
theorem d_K_hear_10 : decode b_K_hear 10 = .ok (.aload_n 0, 1) := by decide +kernel
theorem d_K_hear_11 : decode b_K_hear 11 = .ok (.dup, 1) := by decide +kernel
theorem d_K_hear_12 : decode b_K_hear 12 = .ok (.getfield 31, 3) := by decide +kernel
theorem d_K_hear_15 : decode b_K_hear 15 = .ok (.iconst 1, 1) := by decide +kernel
theorem d_K_hear_16 : decode b_K_hear 16 = .ok (.iadd, 1) := by decide +kernel
theorem d_K_hear_17 : decode b_K_hear 17 = .ok (.putfield 31, 3) := by decide +kernel
theorem d_K_hear_20 : decode b_K_hear 20 = .ok (.aload_n 0, 1) := by decide +kernel
theorem d_K_hear_21 : decode b_K_hear 21 = .ok (.getfield 21, 3) := by decide +kernel
theorem d_K_hear_24 : decode b_K_hear 24 = .ok (.iconst (-1), 1) := by decide +kernel
theorem d_K_hear_25 : decode b_K_hear 25 = .ok (.if_icmp .ne 14, 3) := by decide +kernel
theorem d_K_hear_28 : decode b_K_hear 28 = .ok (.aload_n 0, 1) := by decide +kernel
theorem d_K_hear_29 : decode b_K_hear 29 = .ok (.getfield 12, 3) := by decide +kernel
theorem d_K_hear_32 : decode b_K_hear 32 = .ok (.iload_n 1, 1) := by decide +kernel
theorem d_K_hear_33 : decode b_K_hear 33 = .ok (.invokevirtual 34, 3) := by decide +kernel
theorem d_K_hear_36 : decode b_K_hear 36 = .ok (.goto 11, 3) := by decide +kernel
theorem d_K_hear_39 : decode b_K_hear 39 = .ok (.aload_n 0, 1) := by decide +kernel
theorem d_K_hear_40 : decode b_K_hear 40 = .ok (.getfield 18, 3) := by decide +kernel
theorem d_K_hear_43 : decode b_K_hear 43 = .ok (.iload_n 1, 1) := by decide +kernel
theorem d_K_hear_44 : decode b_K_hear 44 = .ok (.invokevirtual 34, 3) := by decide +kernel
theorem d_K_hear_47 : decode b_K_hear 47 = .ok (.return_, 1) := by decide +kernel
theorem d_K_learnFrom_0 : decode b_K_learnFrom 0 = .ok (.aload_n 0, 1) := by decide +kernel
theorem d_K_learnFrom_1 : decode b_K_learnFrom 1 = .ok (.getfield 12, 3) := by decide +kernel
theorem d_K_learnFrom_4 : decode b_K_learnFrom 4 = .ok (.aload_n 1, 1) := by decide +kernel
theorem d_K_learnFrom_5 : decode b_K_learnFrom 5 = .ok (.getfield 12, 3) := by decide +kernel
theorem d_K_learnFrom_8 : decode b_K_learnFrom 8 = .ok (.invokevirtual 38, 3) := by decide +kernel
theorem d_K_learnFrom_11 : decode b_K_learnFrom 11 = .ok (.aload_n 0, 1) := by decide +kernel
theorem d_K_learnFrom_12 : decode b_K_learnFrom 12 = .ok (.aload_n 0, 1) := by decide +kernel
theorem d_K_learnFrom_13 : decode b_K_learnFrom 13 = .ok (.getfield 31, 3) := by decide +kernel
theorem d_K_learnFrom_16 : decode b_K_learnFrom 16 = .ok (.aload_n 1, 1) := by decide +kernel
theorem d_K_learnFrom_17 : decode b_K_learnFrom 17 = .ok (.getfield 31, 3) := by decide +kernel
theorem d_K_learnFrom_20 : decode b_K_learnFrom 20 = .ok (.invokestatic 42, 3) := by decide +kernel
theorem d_K_learnFrom_23 : decode b_K_learnFrom 23 = .ok (.putfield 31, 3) := by decide +kernel
theorem d_K_learnFrom_26 : decode b_K_learnFrom 26 = .ok (.return_, 1) := by decide +kernel
theorem d_K_learnPending_0 : decode b_K_learnPending 0 = .ok (.aload_n 0, 1) := by decide +kernel
theorem d_K_learnPending_1 : decode b_K_learnPending 1 = .ok (.getfield 12, 3) := by decide +kernel
theorem d_K_learnPending_4 : decode b_K_learnPending 4 = .ok (.aload_n 0, 1) := by decide +kernel
theorem d_K_learnPending_5 : decode b_K_learnPending 5 = .ok (.getfield 18, 3) := by decide +kernel
theorem d_K_learnPending_8 : decode b_K_learnPending 8 = .ok (.invokevirtual 38, 3) := by decide +kernel
theorem d_K_learnPending_11 : decode b_K_learnPending 11 = .ok (.aload_n 0, 1) := by decide +kernel
theorem d_K_learnPending_12 : decode b_K_learnPending 12 = .ok (.getfield 18, 3) := by decide +kernel
theorem d_K_learnPending_15 : decode b_K_learnPending 15 = .ok (.invokevirtual 48, 3) := by decide +kernel
theorem d_K_learnPending_18 : decode b_K_learnPending 18 = .ok (.aload_n 0, 1) := by decide +kernel
theorem d_K_learnPending_19 : decode b_K_learnPending 19 = .ok (.iconst (-1), 1) := by decide +kernel
theorem d_K_learnPending_20 : decode b_K_learnPending 20 = .ok (.putfield 21, 3) := by decide +kernel
theorem d_K_learnPending_23 : decode b_K_learnPending 23 = .ok (.return_, 1) := by decide +kernel
theorem d_W_init_0 : decode b_W_init 0 = .ok (.aload_n 0, 1) := by decide +kernel
theorem d_W_init_1 : decode b_W_init 1 = .ok (.invokespecial 1, 3) := by decide +kernel
theorem d_W_init_4 : decode b_W_init 4 = .ok (.aload_n 0, 1) := by decide +kernel
theorem d_W_init_5 : decode b_W_init 5 = .ok (.lload_n 1, 1) := by decide +kernel
theorem d_W_init_6 : decode b_W_init 6 = .ok (.putfield 7, 3) := by decide +kernel
theorem d_W_init_9 : decode b_W_init 9 = .ok (.return_, 1) := by decide +kernel
theorem d_W_below_0 : decode b_W_below 0 = .ok (.aload_n 0, 1) := by decide +kernel
theorem d_W_below_1 : decode b_W_below 1 = .ok (.aload_n 0, 1) := by decide +kernel
theorem d_W_below_2 : decode b_W_below 2 = .ok (.getfield 7, 3) := by decide +kernel
theorem d_W_below_5 : decode b_W_below 5 = .ok (.ldc2_w 13, 3) := by decide +kernel
theorem d_W_below_8 : decode b_W_below 8 = .ok (.lmul, 1) := by decide +kernel
theorem d_W_below_9 : decode b_W_below 9 = .ok (.ldc2_w 15, 3) := by decide +kernel
theorem d_W_below_12 : decode b_W_below 12 = .ok (.ladd, 1) := by decide +kernel
theorem d_W_below_13 : decode b_W_below 13 = .ok (.putfield 7, 3) := by decide +kernel
theorem d_W_below_16 : decode b_W_below 16 = .ok (.iload_n 1, 1) := by decide +kernel
theorem d_W_below_17 : decode b_W_below 17 = .ok (.iconst 1, 1) := by decide +kernel
theorem d_W_below_18 : decode b_W_below 18 = .ok (.if_icmp .ge 7, 3) := by decide +kernel
theorem d_W_below_21 : decode b_W_below 21 = .ok (.iconst 0, 1) := by decide +kernel
theorem d_W_below_22 : decode b_W_below 22 = .ok (.goto 14, 3) := by decide +kernel
theorem d_W_below_25 : decode b_W_below 25 = .ok (.aload_n 0, 1) := by decide +kernel
theorem d_W_below_26 : decode b_W_below 26 = .ok (.getfield 7, 3) := by decide +kernel
theorem d_W_below_29 : decode b_W_below 29 = .ok (.bipush 33, 2) := by decide +kernel
theorem d_W_below_31 : decode b_W_below 31 = .ok (.lushr, 1) := by decide +kernel
theorem d_W_below_32 : decode b_W_below 32 = .ok (.iload_n 1, 1) := by decide +kernel
theorem d_W_below_33 : decode b_W_below 33 = .ok (.i2l, 1) := by decide +kernel
theorem d_W_below_34 : decode b_W_below 34 = .ok (.lrem, 1) := by decide +kernel
theorem d_W_below_35 : decode b_W_below 35 = .ok (.l2i, 1) := by decide +kernel
theorem d_W_below_36 : decode b_W_below 36 = .ok (.ireturn, 1) := by decide +kernel
theorem d_J_bitCount_0 : decode b_J_bitCount 0 = .ok (.lload_n 0, 1) := by decide +kernel
theorem d_J_bitCount_1 : decode b_J_bitCount 1 = .ok (.lload_n 0, 1) := by decide +kernel
theorem d_J_bitCount_2 : decode b_J_bitCount 2 = .ok (.iconst 1, 1) := by decide +kernel
theorem d_J_bitCount_3 : decode b_J_bitCount 3 = .ok (.lushr, 1) := by decide +kernel
theorem d_J_bitCount_4 : decode b_J_bitCount 4 = .ok (.ldc2_w 314, 3) := by decide +kernel
theorem d_J_bitCount_7 : decode b_J_bitCount 7 = .ok (.land, 1) := by decide +kernel
theorem d_J_bitCount_8 : decode b_J_bitCount 8 = .ok (.lsub, 1) := by decide +kernel
theorem d_J_bitCount_9 : decode b_J_bitCount 9 = .ok (.lstore_n 0, 1) := by decide +kernel
theorem d_J_bitCount_10 : decode b_J_bitCount 10 = .ok (.lload_n 0, 1) := by decide +kernel
theorem d_J_bitCount_11 : decode b_J_bitCount 11 = .ok (.ldc2_w 316, 3) := by decide +kernel
theorem d_J_bitCount_14 : decode b_J_bitCount 14 = .ok (.land, 1) := by decide +kernel
theorem d_J_bitCount_15 : decode b_J_bitCount 15 = .ok (.lload_n 0, 1) := by decide +kernel
theorem d_J_bitCount_16 : decode b_J_bitCount 16 = .ok (.iconst 2, 1) := by decide +kernel
theorem d_J_bitCount_17 : decode b_J_bitCount 17 = .ok (.lushr, 1) := by decide +kernel
theorem d_J_bitCount_18 : decode b_J_bitCount 18 = .ok (.ldc2_w 316, 3) := by decide +kernel
theorem d_J_bitCount_21 : decode b_J_bitCount 21 = .ok (.land, 1) := by decide +kernel
theorem d_J_bitCount_22 : decode b_J_bitCount 22 = .ok (.ladd, 1) := by decide +kernel
theorem d_J_bitCount_23 : decode b_J_bitCount 23 = .ok (.lstore_n 0, 1) := by decide +kernel
theorem d_J_bitCount_24 : decode b_J_bitCount 24 = .ok (.lload_n 0, 1) := by decide +kernel
theorem d_J_bitCount_25 : decode b_J_bitCount 25 = .ok (.lload_n 0, 1) := by decide +kernel
theorem d_J_bitCount_26 : decode b_J_bitCount 26 = .ok (.iconst 4, 1) := by decide +kernel
theorem d_J_bitCount_27 : decode b_J_bitCount 27 = .ok (.lushr, 1) := by decide +kernel
theorem d_J_bitCount_28 : decode b_J_bitCount 28 = .ok (.ladd, 1) := by decide +kernel
theorem d_J_bitCount_29 : decode b_J_bitCount 29 = .ok (.ldc2_w 318, 3) := by decide +kernel
theorem d_J_bitCount_32 : decode b_J_bitCount 32 = .ok (.land, 1) := by decide +kernel
theorem d_J_bitCount_33 : decode b_J_bitCount 33 = .ok (.lstore_n 0, 1) := by decide +kernel
theorem d_J_bitCount_34 : decode b_J_bitCount 34 = .ok (.lload_n 0, 1) := by decide +kernel
theorem d_J_bitCount_35 : decode b_J_bitCount 35 = .ok (.lload_n 0, 1) := by decide +kernel
theorem d_J_bitCount_36 : decode b_J_bitCount 36 = .ok (.bipush 8, 2) := by decide +kernel
theorem d_J_bitCount_38 : decode b_J_bitCount 38 = .ok (.lushr, 1) := by decide +kernel
theorem d_J_bitCount_39 : decode b_J_bitCount 39 = .ok (.ladd, 1) := by decide +kernel
theorem d_J_bitCount_40 : decode b_J_bitCount 40 = .ok (.lstore_n 0, 1) := by decide +kernel
theorem d_J_bitCount_41 : decode b_J_bitCount 41 = .ok (.lload_n 0, 1) := by decide +kernel
theorem d_J_bitCount_42 : decode b_J_bitCount 42 = .ok (.lload_n 0, 1) := by decide +kernel
theorem d_J_bitCount_43 : decode b_J_bitCount 43 = .ok (.bipush 16, 2) := by decide +kernel
theorem d_J_bitCount_45 : decode b_J_bitCount 45 = .ok (.lushr, 1) := by decide +kernel
theorem d_J_bitCount_46 : decode b_J_bitCount 46 = .ok (.ladd, 1) := by decide +kernel
theorem d_J_bitCount_47 : decode b_J_bitCount 47 = .ok (.lstore_n 0, 1) := by decide +kernel
theorem d_J_bitCount_48 : decode b_J_bitCount 48 = .ok (.lload_n 0, 1) := by decide +kernel
theorem d_J_bitCount_49 : decode b_J_bitCount 49 = .ok (.lload_n 0, 1) := by decide +kernel
theorem d_J_bitCount_50 : decode b_J_bitCount 50 = .ok (.bipush 32, 2) := by decide +kernel
theorem d_J_bitCount_52 : decode b_J_bitCount 52 = .ok (.lushr, 1) := by decide +kernel
theorem d_J_bitCount_53 : decode b_J_bitCount 53 = .ok (.ladd, 1) := by decide +kernel
theorem d_J_bitCount_54 : decode b_J_bitCount 54 = .ok (.lstore_n 0, 1) := by decide +kernel
theorem d_J_bitCount_55 : decode b_J_bitCount 55 = .ok (.lload_n 0, 1) := by decide +kernel
theorem d_J_bitCount_56 : decode b_J_bitCount 56 = .ok (.l2i, 1) := by decide +kernel
theorem d_J_bitCount_57 : decode b_J_bitCount 57 = .ok (.bipush 127, 2) := by decide +kernel
theorem d_J_bitCount_59 : decode b_J_bitCount 59 = .ok (.iand, 1) := by decide +kernel
theorem d_J_bitCount_60 : decode b_J_bitCount 60 = .ok (.ireturn, 1) := by decide +kernel
