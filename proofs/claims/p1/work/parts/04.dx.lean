theorem dX0_init_0 : decode cX0_init 0 = .ok (.aload_n 0, 1) := by decide +kernel
theorem dX0_init_1 : decode cX0_init 1 = .ok (.invokespecial 3, 3) := by decide +kernel
theorem dX0_init_4 : decode cX0_init 4 = .ok (.aload_n 0, 1) := by decide +kernel
theorem dX0_init_5 : decode cX0_init 5 = .ok (.bipush 120, 2) := by decide +kernel
theorem dX0_init_7 : decode cX0_init 7 = .ok (.newarray .int, 2) := by decide +kernel
theorem dX0_init_9 : decode cX0_init 9 = .ok (.putfield 9, 3) := by decide +kernel
theorem dX0_init_12 : decode cX0_init 12 = .ok (.aload_n 0, 1) := by decide +kernel
theorem dX0_init_13 : decode cX0_init 13 = .ok (.bipush 8, 2) := by decide +kernel
theorem dX0_init_15 : decode cX0_init 15 = .ok (.newarray .int, 2) := by decide +kernel
theorem dX0_init_17 : decode cX0_init 17 = .ok (.putfield 15, 3) := by decide +kernel
theorem dX0_init_20 : decode cX0_init 20 = .ok (.aload_n 0, 1) := by decide +kernel
theorem dX0_init_21 : decode cX0_init 21 = .ok (.aload_n 1, 1) := by decide +kernel
theorem dX0_init_22 : decode cX0_init 22 = .ok (.putfield 18, 3) := by decide +kernel
theorem dX0_init_25 : decode cX0_init 25 = .ok (.aload_n 0, 1) := by decide +kernel
theorem dX0_init_26 : decode cX0_init 26 = .ok (.aload_n 2, 1) := by decide +kernel
theorem dX0_init_27 : decode cX0_init 27 = .ok (.putfield 22, 3) := by decide +kernel
theorem dX0_init_30 : decode cX0_init 30 = .ok (.aload_n 0, 1) := by decide +kernel
theorem dX0_init_31 : decode cX0_init 31 = .ok (.aload_n 3, 1) := by decide +kernel
theorem dX0_init_32 : decode cX0_init 32 = .ok (.putfield 26, 3) := by decide +kernel
theorem dX0_init_35 : decode cX0_init 35 = .ok (.return_, 1) := by decide +kernel
theorem dX0_takesRow_0 : decode cX0_takesRow 0 = .ok (.aload_n 0, 1) := by decide +kernel
theorem dX0_takesRow_1 : decode cX0_takesRow 1 = .ok (.aload_n 0, 1) := by decide +kernel
theorem dX0_takesRow_2 : decode cX0_takesRow 2 = .ok (.getfield 18, 3) := by decide +kernel
theorem dX0_takesRow_5 : decode cX0_takesRow 5 = .ok (.getfield 30, 3) := by decide +kernel
theorem dX0_takesRow_8 : decode cX0_takesRow 8 = .ok (.putfield 36, 3) := by decide +kernel
theorem dX0_takesRow_11 : decode cX0_takesRow 11 = .ok (.iconst 0, 1) := by decide +kernel
theorem dX0_takesRow_12 : decode cX0_takesRow 12 = .ok (.istore_n 1, 1) := by decide +kernel
theorem dX0_takesRow_13 : decode cX0_takesRow 13 = .ok (.iload_n 1, 1) := by decide +kernel
theorem dX0_takesRow_14 : decode cX0_takesRow 14 = .ok (.aload_n 0, 1) := by decide +kernel
theorem dX0_takesRow_15 : decode cX0_takesRow 15 = .ok (.getfield 36, 3) := by decide +kernel
theorem dX0_takesRow_18 : decode cX0_takesRow 18 = .ok (.if_icmp .ge 42, 3) := by decide +kernel
theorem dX0_takesRow_60 : decode cX0_takesRow 60 = .ok (.iconst 1, 1) := by decide +kernel
theorem dX0_takesRow_61 : decode cX0_takesRow 61 = .ok (.ireturn, 1) := by decide +kernel
theorem dX0_rowArrangesAll_0 : decode cX0_rowArrangesAll 0 = .ok (.aload_n 0, 1) := by decide +kernel
theorem dX0_rowArrangesAll_1 : decode cX0_rowArrangesAll 1 = .ok (.invokevirtual 48, 3) := by decide +kernel
theorem dX0_rowArrangesAll_4 : decode cX0_rowArrangesAll 4 = .ok (.aload_n 0, 1) := by decide +kernel
theorem dX0_rowArrangesAll_5 : decode cX0_rowArrangesAll 5 = .ok (.invokevirtual 51, 3) := by decide +kernel
theorem dX0_rowArrangesAll_8 : decode cX0_rowArrangesAll 8 = .ok (.ireturn, 1) := by decide +kernel
theorem dX0_shortestRow_0 : decode cX0_shortestRow 0 = .ok (.aload_n 0, 1) := by decide +kernel
theorem dX0_shortestRow_1 : decode cX0_shortestRow 1 = .ok (.invokevirtual 48, 3) := by decide +kernel
theorem dX0_shortestRow_4 : decode cX0_shortestRow 4 = .ok (.iconst 0, 1) := by decide +kernel
theorem dX0_shortestRow_5 : decode cX0_shortestRow 5 = .ok (.istore_n 1, 1) := by decide +kernel
theorem dX0_shortestRow_6 : decode cX0_shortestRow 6 = .ok (.iload_n 1, 1) := by decide +kernel
theorem dX0_shortestRow_7 : decode cX0_shortestRow 7 = .ok (.iconst 3, 1) := by decide +kernel
theorem dX0_shortestRow_8 : decode cX0_shortestRow 8 = .ok (.if_icmp .gt 19, 3) := by decide +kernel
theorem dX0_shortestRow_11 : decode cX0_shortestRow 11 = .ok (.aload_n 0, 1) := by decide +kernel
theorem dX0_shortestRow_12 : decode cX0_shortestRow 12 = .ok (.iload_n 1, 1) := by decide +kernel
theorem dX0_shortestRow_13 : decode cX0_shortestRow 13 = .ok (.invokevirtual 55, 3) := by decide +kernel
theorem dX0_shortestRow_16 : decode cX0_shortestRow 16 = .ok (.ifCond .eq 5, 3) := by decide +kernel
theorem dX0_shortestRow_19 : decode cX0_shortestRow 19 = .ok (.iload_n 1, 1) := by decide +kernel
theorem dX0_shortestRow_20 : decode cX0_shortestRow 20 = .ok (.ireturn, 1) := by decide +kernel
theorem dX0_listStarts_0 : decode cX0_listStarts 0 = .ok (.aload_n 0, 1) := by decide +kernel
theorem dX0_listStarts_1 : decode cX0_listStarts 1 = .ok (.iconst 0, 1) := by decide +kernel
theorem dX0_listStarts_2 : decode cX0_listStarts 2 = .ok (.putfield 59, 3) := by decide +kernel
theorem dX0_listStarts_5 : decode cX0_listStarts 5 = .ok (.aload_n 0, 1) := by decide +kernel
theorem dX0_listStarts_6 : decode cX0_listStarts 6 = .ok (.getfield 18, 3) := by decide +kernel
theorem dX0_listStarts_9 : decode cX0_listStarts 9 = .ok (.invokevirtual 62, 3) := by decide +kernel
theorem dX0_listStarts_12 : decode cX0_listStarts 12 = .ok (.istore_n 1, 1) := by decide +kernel
theorem dX0_listStarts_13 : decode cX0_listStarts 13 = .ok (.iconst 0, 1) := by decide +kernel
theorem dX0_listStarts_14 : decode cX0_listStarts 14 = .ok (.istore_n 2, 1) := by decide +kernel
theorem dX0_listStarts_15 : decode cX0_listStarts 15 = .ok (.iload_n 2, 1) := by decide +kernel
theorem dX0_listStarts_16 : decode cX0_listStarts 16 = .ok (.aload_n 0, 1) := by decide +kernel
theorem dX0_listStarts_17 : decode cX0_listStarts 17 = .ok (.getfield 22, 3) := by decide +kernel
theorem dX0_listStarts_20 : decode cX0_listStarts 20 = .ok (.getfield 66, 3) := by decide +kernel
theorem dX0_listStarts_23 : decode cX0_listStarts 23 = .ok (.if_icmp .ge 45, 3) := by decide +kernel
theorem dX0_listStarts_26 : decode cX0_listStarts 26 = .ok (.aload_n 0, 1) := by decide +kernel
theorem dX0_listStarts_27 : decode cX0_listStarts 27 = .ok (.iload_n 2, 1) := by decide +kernel
theorem dX0_listStarts_28 : decode cX0_listStarts 28 = .ok (.invokevirtual 69, 3) := by decide +kernel
theorem dX0_listStarts_31 : decode cX0_listStarts 31 = .ok (.ifCond .eq 31, 3) := by decide +kernel
theorem dX0_listStarts_34 : decode cX0_listStarts 34 = .ok (.aload_n 0, 1) := by decide +kernel
theorem dX0_listStarts_35 : decode cX0_listStarts 35 = .ok (.getfield 9, 3) := by decide +kernel
theorem dX0_listStarts_38 : decode cX0_listStarts 38 = .ok (.aload_n 0, 1) := by decide +kernel
theorem dX0_listStarts_39 : decode cX0_listStarts 39 = .ok (.getfield 59, 3) := by decide +kernel
theorem dX0_listStarts_42 : decode cX0_listStarts 42 = .ok (.aload_n 0, 1) := by decide +kernel
theorem dX0_listStarts_43 : decode cX0_listStarts 43 = .ok (.getfield 22, 3) := by decide +kernel
theorem dX0_listStarts_46 : decode cX0_listStarts 46 = .ok (.iload_n 2, 1) := by decide +kernel
theorem dX0_listStarts_47 : decode cX0_listStarts 47 = .ok (.iload_n 1, 1) := by decide +kernel
theorem dX0_listStarts_48 : decode cX0_listStarts 48 = .ok (.invokevirtual 72, 3) := by decide +kernel
theorem dX0_listStarts_51 : decode cX0_listStarts 51 = .ok (.iastore, 1) := by decide +kernel
theorem dX0_listStarts_52 : decode cX0_listStarts 52 = .ok (.aload_n 0, 1) := by decide +kernel
theorem dX0_listStarts_53 : decode cX0_listStarts 53 = .ok (.dup, 1) := by decide +kernel
theorem dX0_listStarts_54 : decode cX0_listStarts 54 = .ok (.getfield 59, 3) := by decide +kernel
theorem dX0_listStarts_57 : decode cX0_listStarts 57 = .ok (.iconst 1, 1) := by decide +kernel
theorem dX0_listStarts_58 : decode cX0_listStarts 58 = .ok (.iadd, 1) := by decide +kernel
theorem dX0_listStarts_59 : decode cX0_listStarts 59 = .ok (.putfield 59, 3) := by decide +kernel
theorem dX0_listStarts_62 : decode cX0_listStarts 62 = .ok (.iinc 2 1, 3) := by decide +kernel
theorem dX0_listStarts_65 : decode cX0_listStarts 65 = .ok (.goto (-50), 3) := by decide +kernel
theorem dX0_listStarts_68 : decode cX0_listStarts 68 = .ok (.return_, 1) := by decide +kernel
theorem dX0_isAllowed_0 : decode cX0_isAllowed 0 = .ok (.iconst 0, 1) := by decide +kernel
theorem dX0_isAllowed_1 : decode cX0_isAllowed 1 = .ok (.istore_n 2, 1) := by decide +kernel
theorem dX0_isAllowed_2 : decode cX0_isAllowed 2 = .ok (.iload_n 2, 1) := by decide +kernel
theorem dX0_isAllowed_3 : decode cX0_isAllowed 3 = .ok (.aload_n 0, 1) := by decide +kernel
theorem dX0_isAllowed_4 : decode cX0_isAllowed 4 = .ok (.getfield 18, 3) := by decide +kernel
theorem dX0_isAllowed_7 : decode cX0_isAllowed 7 = .ok (.getfield 76, 3) := by decide +kernel
theorem dX0_isAllowed_10 : decode cX0_isAllowed 10 = .ok (.if_icmp .ge 42, 3) := by decide +kernel
theorem dX0_isAllowed_52 : decode cX0_isAllowed 52 = .ok (.iconst 1, 1) := by decide +kernel
theorem dX0_isAllowed_53 : decode cX0_isAllowed 53 = .ok (.ireturn, 1) := by decide +kernel
theorem dX0_findRow_0 : decode cX0_findRow 0 = .ok (.iload_n 1, 1) := by decide +kernel
theorem dX0_findRow_1 : decode cX0_findRow 1 = .ok (.ifCond .le 15, 3) := by decide +kernel
theorem dX0_findRow_16 : decode cX0_findRow 16 = .ok (.aload_n 0, 1) := by decide +kernel
theorem dX0_findRow_17 : decode cX0_findRow 17 = .ok (.iload_n 1, 1) := by decide +kernel
theorem dX0_findRow_18 : decode cX0_findRow 18 = .ok (.putfield 36, 3) := by decide +kernel
theorem dX0_findRow_21 : decode cX0_findRow 21 = .ok (.iconst 0, 1) := by decide +kernel
theorem dX0_findRow_22 : decode cX0_findRow 22 = .ok (.istore_n 2, 1) := by decide +kernel
theorem dX0_findRow_23 : decode cX0_findRow 23 = .ok (.iload_n 2, 1) := by decide +kernel
theorem dX0_findRow_24 : decode cX0_findRow 24 = .ok (.iload_n 1, 1) := by decide +kernel
theorem dX0_findRow_25 : decode cX0_findRow 25 = .ok (.if_icmp .ge 16, 3) := by decide +kernel
theorem dX0_findRow_41 : decode cX0_findRow 41 = .ok (.iconst 0, 1) := by decide +kernel
theorem dX0_findRow_42 : decode cX0_findRow 42 = .ok (.istore_n 2, 1) := by decide +kernel
theorem dX0_findRow_43 : decode cX0_findRow 43 = .ok (.iload_n 2, 1) := by decide +kernel
theorem dX0_findRow_44 : decode cX0_findRow 44 = .ok (.ldc 97, 2) := by decide +kernel
theorem dX0_findRow_46 : decode cX0_findRow 46 = .ok (.if_icmp .ge 27, 3) := by decide +kernel
theorem dX0_findRow_49 : decode cX0_findRow 49 = .ok (.aload_n 0, 1) := by decide +kernel
theorem dX0_findRow_50 : decode cX0_findRow 50 = .ok (.invokevirtual 51, 3) := by decide +kernel
theorem dX0_findRow_53 : decode cX0_findRow 53 = .ok (.ifCond .eq 5, 3) := by decide +kernel
theorem dX0_findRow_56 : decode cX0_findRow 56 = .ok (.iconst 1, 1) := by decide +kernel
theorem dX0_findRow_57 : decode cX0_findRow 57 = .ok (.ireturn, 1) := by decide +kernel
theorem dX0_arrangesAll_0 : decode cX0_arrangesAll 0 = .ok (.iconst 0, 1) := by decide +kernel
theorem dX0_arrangesAll_1 : decode cX0_arrangesAll 1 = .ok (.istore_n 1, 1) := by decide +kernel
theorem dX0_arrangesAll_2 : decode cX0_arrangesAll 2 = .ok (.iload_n 1, 1) := by decide +kernel
theorem dX0_arrangesAll_3 : decode cX0_arrangesAll 3 = .ok (.aload_n 0, 1) := by decide +kernel
theorem dX0_arrangesAll_4 : decode cX0_arrangesAll 4 = .ok (.getfield 59, 3) := by decide +kernel
theorem dX0_arrangesAll_7 : decode cX0_arrangesAll 7 = .ok (.if_icmp .ge 24, 3) := by decide +kernel
theorem dX0_arrangesAll_10 : decode cX0_arrangesAll 10 = .ok (.aload_n 0, 1) := by decide +kernel
theorem dX0_arrangesAll_11 : decode cX0_arrangesAll 11 = .ok (.aload_n 0, 1) := by decide +kernel
theorem dX0_arrangesAll_12 : decode cX0_arrangesAll 12 = .ok (.getfield 9, 3) := by decide +kernel
theorem dX0_arrangesAll_15 : decode cX0_arrangesAll 15 = .ok (.iload_n 1, 1) := by decide +kernel
theorem dX0_arrangesAll_16 : decode cX0_arrangesAll 16 = .ok (.iaload, 1) := by decide +kernel
theorem dX0_arrangesAll_17 : decode cX0_arrangesAll 17 = .ok (.invokevirtual 101, 3) := by decide +kernel
theorem dX0_arrangesAll_20 : decode cX0_arrangesAll 20 = .ok (.ifCond .ne 5, 3) := by decide +kernel
theorem dX0_arrangesAll_25 : decode cX0_arrangesAll 25 = .ok (.iinc 1 1, 3) := by decide +kernel
theorem dX0_arrangesAll_28 : decode cX0_arrangesAll 28 = .ok (.goto (-26), 3) := by decide +kernel
theorem dX0_arrangesAll_31 : decode cX0_arrangesAll 31 = .ok (.iconst 1, 1) := by decide +kernel
theorem dX0_arrangesAll_32 : decode cX0_arrangesAll 32 = .ok (.ireturn, 1) := by decide +kernel
theorem dX0_arranges_0 : decode cX0_arranges 0 = .ok (.iload_n 1, 1) := by decide +kernel
theorem dX0_arranges_1 : decode cX0_arranges 1 = .ok (.istore_n 2, 1) := by decide +kernel
theorem dX0_arranges_2 : decode cX0_arranges 2 = .ok (.iconst 0, 1) := by decide +kernel
theorem dX0_arranges_3 : decode cX0_arranges 3 = .ok (.istore_n 3, 1) := by decide +kernel
theorem dX0_arranges_4 : decode cX0_arranges 4 = .ok (.iload_n 3, 1) := by decide +kernel
theorem dX0_arranges_5 : decode cX0_arranges 5 = .ok (.aload_n 0, 1) := by decide +kernel
theorem dX0_arranges_6 : decode cX0_arranges 6 = .ok (.getfield 36, 3) := by decide +kernel
theorem dX0_arranges_9 : decode cX0_arranges 9 = .ok (.if_icmp .ge 50, 3) := by decide +kernel
theorem dX0_arranges_59 : decode cX0_arranges 59 = .ok (.aload_n 0, 1) := by decide +kernel
theorem dX0_arranges_60 : decode cX0_arranges 60 = .ok (.getfield 26, 3) := by decide +kernel
theorem dX0_arranges_63 : decode cX0_arranges 63 = .ok (.iload_n 2, 1) := by decide +kernel
theorem dX0_arranges_64 : decode cX0_arranges 64 = .ok (.invokevirtual 116, 3) := by decide +kernel
theorem dX0_arranges_67 : decode cX0_arranges 67 = .ok (.ireturn, 1) := by decide +kernel
theorem dX1_init_0 : decode cX1_init 0 = .ok (.aload_n 0, 1) := by decide +kernel
theorem dX1_init_1 : decode cX1_init 1 = .ok (.invokespecial 3, 3) := by decide +kernel
theorem dX1_init_4 : decode cX1_init 4 = .ok (.aload_n 0, 1) := by decide +kernel
theorem dX1_init_5 : decode cX1_init 5 = .ok (.sipush 3840, 3) := by decide +kernel
theorem dX1_init_8 : decode cX1_init 8 = .ok (.newarray .int, 2) := by decide +kernel
theorem dX1_init_10 : decode cX1_init 10 = .ok (.putfield 9, 3) := by decide +kernel
theorem dX1_init_13 : decode cX1_init 13 = .ok (.aload_n 0, 1) := by decide +kernel
theorem dX1_init_14 : decode cX1_init 14 = .ok (.sipush 3840, 3) := by decide +kernel
theorem dX1_init_17 : decode cX1_init 17 = .ok (.newarray .int, 2) := by decide +kernel
theorem dX1_init_19 : decode cX1_init 19 = .ok (.putfield 15, 3) := by decide +kernel
theorem dX1_init_22 : decode cX1_init 22 = .ok (.aload_n 0, 1) := by decide +kernel
theorem dX1_init_23 : decode cX1_init 23 = .ok (.sipush 3840, 3) := by decide +kernel
theorem dX1_init_26 : decode cX1_init 26 = .ok (.newarray .int, 2) := by decide +kernel
theorem dX1_init_28 : decode cX1_init 28 = .ok (.putfield 18, 3) := by decide +kernel
theorem dX1_init_31 : decode cX1_init 31 = .ok (.aload_n 0, 1) := by decide +kernel
theorem dX1_init_32 : decode cX1_init 32 = .ok (.aload_n 1, 1) := by decide +kernel
theorem dX1_init_33 : decode cX1_init 33 = .ok (.putfield 21, 3) := by decide +kernel
theorem dX1_init_36 : decode cX1_init 36 = .ok (.aload_n 0, 1) := by decide +kernel
theorem dX1_init_37 : decode cX1_init 37 = .ok (.aload_n 2, 1) := by decide +kernel
theorem dX1_init_38 : decode cX1_init 38 = .ok (.putfield 25, 3) := by decide +kernel
theorem dX1_init_41 : decode cX1_init 41 = .ok (.aload_n 0, 1) := by decide +kernel
theorem dX1_init_42 : decode cX1_init 42 = .ok (.aload_n 3, 1) := by decide +kernel
theorem dX1_init_43 : decode cX1_init 43 = .ok (.getfield 29, 3) := by decide +kernel
theorem dX1_init_46 : decode cX1_init 46 = .ok (.putfield 34, 3) := by decide +kernel
theorem dX1_init_49 : decode cX1_init 49 = .ok (.aload_n 0, 1) := by decide +kernel
theorem dX1_init_50 : decode cX1_init 50 = .ok (.aload_n 3, 1) := by decide +kernel
theorem dX1_init_51 : decode cX1_init 51 = .ok (.getfield 35, 3) := by decide +kernel
theorem dX1_init_54 : decode cX1_init 54 = .ok (.putfield 38, 3) := by decide +kernel
theorem dX1_init_57 : decode cX1_init 57 = .ok (.return_, 1) := by decide +kernel
theorem dX1_forget_0 : decode cX1_forget 0 = .ok (.aload_n 0, 1) := by decide +kernel
theorem dX1_forget_1 : decode cX1_forget 1 = .ok (.iconst 0, 1) := by decide +kernel
theorem dX1_forget_2 : decode cX1_forget 2 = .ok (.putfield 41, 3) := by decide +kernel
theorem dX1_forget_5 : decode cX1_forget 5 = .ok (.aload_n 0, 1) := by decide +kernel
theorem dX1_forget_6 : decode cX1_forget 6 = .ok (.iconst 0, 1) := by decide +kernel
theorem dX1_forget_7 : decode cX1_forget 7 = .ok (.putfield 45, 3) := by decide +kernel
theorem dX1_forget_10 : decode cX1_forget 10 = .ok (.return_, 1) := by decide +kernel
theorem dX1_leastOf_0 : decode cX1_leastOf 0 = .ok (.aload_n 0, 1) := by decide +kernel
theorem dX1_leastOf_1 : decode cX1_leastOf 1 = .ok (.invokevirtual 48, 3) := by decide +kernel
theorem dX1_leastOf_4 : decode cX1_leastOf 4 = .ok (.aload_n 0, 1) := by decide +kernel
theorem dX1_leastOf_5 : decode cX1_leastOf 5 = .ok (.getfield 9, 3) := by decide +kernel
theorem dX1_leastOf_8 : decode cX1_leastOf 8 = .ok (.iload_n 1, 1) := by decide +kernel
theorem dX1_leastOf_9 : decode cX1_leastOf 9 = .ok (.iaload, 1) := by decide +kernel
theorem dX1_leastOf_10 : decode cX1_leastOf 10 = .ok (.ireturn, 1) := by decide +kernel
theorem dX1_waysOf_0 : decode cX1_waysOf 0 = .ok (.aload_n 0, 1) := by decide +kernel
theorem dX1_waysOf_1 : decode cX1_waysOf 1 = .ok (.invokevirtual 48, 3) := by decide +kernel
theorem dX1_waysOf_4 : decode cX1_waysOf 4 = .ok (.aload_n 0, 1) := by decide +kernel
theorem dX1_waysOf_5 : decode cX1_waysOf 5 = .ok (.getfield 9, 3) := by decide +kernel
theorem dX1_waysOf_8 : decode cX1_waysOf 8 = .ok (.iload_n 1, 1) := by decide +kernel
theorem dX1_waysOf_9 : decode cX1_waysOf 9 = .ok (.iaload, 1) := by decide +kernel
theorem dX1_waysOf_10 : decode cX1_waysOf 10 = .ok (.ifCond .ge 7, 3) := by decide +kernel
theorem dX1_waysOf_17 : decode cX1_waysOf 17 = .ok (.aload_n 0, 1) := by decide +kernel
theorem dX1_waysOf_18 : decode cX1_waysOf 18 = .ok (.getfield 15, 3) := by decide +kernel
theorem dX1_waysOf_21 : decode cX1_waysOf 21 = .ok (.iload_n 1, 1) := by decide +kernel
theorem dX1_waysOf_22 : decode cX1_waysOf 22 = .ok (.iaload, 1) := by decide +kernel
theorem dX1_waysOf_23 : decode cX1_waysOf 23 = .ok (.ireturn, 1) := by decide +kernel
theorem dX1_priceOf_0 : decode cX1_priceOf 0 = .ok (.aload_n 0, 1) := by decide +kernel
theorem dX1_priceOf_1 : decode cX1_priceOf 1 = .ok (.invokevirtual 51, 3) := by decide +kernel
theorem dX1_priceOf_4 : decode cX1_priceOf 4 = .ok (.aload_n 0, 1) := by decide +kernel
theorem dX1_priceOf_5 : decode cX1_priceOf 5 = .ok (.getfield 18, 3) := by decide +kernel
theorem dX1_priceOf_8 : decode cX1_priceOf 8 = .ok (.iload_n 1, 1) := by decide +kernel
theorem dX1_priceOf_9 : decode cX1_priceOf 9 = .ok (.iaload, 1) := by decide +kernel
theorem dX1_priceOf_10 : decode cX1_priceOf 10 = .ok (.ireturn, 1) := by decide +kernel
theorem dX1_howManyAt_0 : decode cX1_howManyAt 0 = .ok (.aload_n 0, 1) := by decide +kernel
theorem dX1_howManyAt_1 : decode cX1_howManyAt 1 = .ok (.invokevirtual 48, 3) := by decide +kernel
theorem dX1_howManyAt_4 : decode cX1_howManyAt 4 = .ok (.iconst 0, 1) := by decide +kernel
theorem dX1_howManyAt_5 : decode cX1_howManyAt 5 = .ok (.istore_n 2, 1) := by decide +kernel
theorem dX1_howManyAt_6 : decode cX1_howManyAt 6 = .ok (.iconst 0, 1) := by decide +kernel
theorem dX1_howManyAt_7 : decode cX1_howManyAt 7 = .ok (.istore_n 3, 1) := by decide +kernel
theorem dX1_howManyAt_8 : decode cX1_howManyAt 8 = .ok (.iload_n 3, 1) := by decide +kernel
theorem dX1_howManyAt_9 : decode cX1_howManyAt 9 = .ok (.aload_n 0, 1) := by decide +kernel
theorem dX1_howManyAt_10 : decode cX1_howManyAt 10 = .ok (.getfield 21, 3) := by decide +kernel
theorem dX1_howManyAt_13 : decode cX1_howManyAt 13 = .ok (.getfield 54, 3) := by decide +kernel
theorem dX1_howManyAt_16 : decode cX1_howManyAt 16 = .ok (.if_icmp .ge 22, 3) := by decide +kernel
theorem dX1_howManyAt_19 : decode cX1_howManyAt 19 = .ok (.aload_n 0, 1) := by decide +kernel
theorem dX1_howManyAt_20 : decode cX1_howManyAt 20 = .ok (.getfield 9, 3) := by decide +kernel
theorem dX1_howManyAt_23 : decode cX1_howManyAt 23 = .ok (.iload_n 3, 1) := by decide +kernel
theorem dX1_howManyAt_24 : decode cX1_howManyAt 24 = .ok (.iaload, 1) := by decide +kernel
theorem dX1_howManyAt_25 : decode cX1_howManyAt 25 = .ok (.iload_n 1, 1) := by decide +kernel
theorem dX1_howManyAt_26 : decode cX1_howManyAt 26 = .ok (.if_icmp .ne 6, 3) := by decide +kernel
theorem dX1_howManyAt_29 : decode cX1_howManyAt 29 = .ok (.iinc 2 1, 3) := by decide +kernel
theorem dX1_howManyAt_32 : decode cX1_howManyAt 32 = .ok (.iinc 3 1, 3) := by decide +kernel
theorem dX1_howManyAt_35 : decode cX1_howManyAt 35 = .ok (.goto (-27), 3) := by decide +kernel
theorem dX1_howManyAt_38 : decode cX1_howManyAt 38 = .ok (.iload_n 2, 1) := by decide +kernel
theorem dX1_howManyAt_39 : decode cX1_howManyAt 39 = .ok (.ireturn, 1) := by decide +kernel
theorem dX1_measure_0 : decode cX1_measure 0 = .ok (.aload_n 0, 1) := by decide +kernel
theorem dX1_measure_1 : decode cX1_measure 1 = .ok (.getfield 41, 3) := by decide +kernel
theorem dX1_measure_4 : decode cX1_measure 4 = .ok (.ifCond .eq 4, 3) := by decide +kernel
theorem dX1_measure_8 : decode cX1_measure 8 = .ok (.aload_n 0, 1) := by decide +kernel
theorem dX1_measure_9 : decode cX1_measure 9 = .ok (.iconst 1, 1) := by decide +kernel
theorem dX1_measure_10 : decode cX1_measure 10 = .ok (.putfield 41, 3) := by decide +kernel
theorem dX1_measure_13 : decode cX1_measure 13 = .ok (.iconst 0, 1) := by decide +kernel
theorem dX1_measure_14 : decode cX1_measure 14 = .ok (.istore_n 1, 1) := by decide +kernel
theorem dX1_measure_15 : decode cX1_measure 15 = .ok (.iconst 0, 1) := by decide +kernel
theorem dX1_measure_16 : decode cX1_measure 16 = .ok (.istore_n 2, 1) := by decide +kernel
theorem dX1_measure_17 : decode cX1_measure 17 = .ok (.iload_n 2, 1) := by decide +kernel
theorem dX1_measure_18 : decode cX1_measure 18 = .ok (.aload_n 0, 1) := by decide +kernel
theorem dX1_measure_19 : decode cX1_measure 19 = .ok (.getfield 21, 3) := by decide +kernel
theorem dX1_measure_22 : decode cX1_measure 22 = .ok (.getfield 54, 3) := by decide +kernel
theorem dX1_measure_25 : decode cX1_measure 25 = .ok (.if_icmp .ge 51, 3) := by decide +kernel
theorem dX1_measure_28 : decode cX1_measure 28 = .ok (.aload_n 0, 1) := by decide +kernel
theorem dX1_measure_29 : decode cX1_measure 29 = .ok (.getfield 9, 3) := by decide +kernel
theorem dX1_measure_32 : decode cX1_measure 32 = .ok (.iload_n 2, 1) := by decide +kernel
theorem dX1_measure_33 : decode cX1_measure 33 = .ok (.iconst (-1), 1) := by decide +kernel
theorem dX1_measure_34 : decode cX1_measure 34 = .ok (.iastore, 1) := by decide +kernel
theorem dX1_measure_35 : decode cX1_measure 35 = .ok (.aload_n 0, 1) := by decide +kernel
theorem dX1_measure_36 : decode cX1_measure 36 = .ok (.getfield 25, 3) := by decide +kernel
theorem dX1_measure_39 : decode cX1_measure 39 = .ok (.iload_n 2, 1) := by decide +kernel
theorem dX1_measure_40 : decode cX1_measure 40 = .ok (.invokevirtual 60, 3) := by decide +kernel
theorem dX1_measure_43 : decode cX1_measure 43 = .ok (.ifCond .eq 27, 3) := by decide +kernel
theorem dX1_measure_46 : decode cX1_measure 46 = .ok (.aload_n 0, 1) := by decide +kernel
theorem dX1_measure_47 : decode cX1_measure 47 = .ok (.getfield 9, 3) := by decide +kernel
theorem dX1_measure_50 : decode cX1_measure 50 = .ok (.iload_n 2, 1) := by decide +kernel
theorem dX1_measure_51 : decode cX1_measure 51 = .ok (.iconst 0, 1) := by decide +kernel
theorem dX1_measure_52 : decode cX1_measure 52 = .ok (.iastore, 1) := by decide +kernel
theorem dX1_measure_53 : decode cX1_measure 53 = .ok (.aload_n 0, 1) := by decide +kernel
theorem dX1_measure_54 : decode cX1_measure 54 = .ok (.getfield 15, 3) := by decide +kernel
theorem dX1_measure_57 : decode cX1_measure 57 = .ok (.iload_n 2, 1) := by decide +kernel
theorem dX1_measure_58 : decode cX1_measure 58 = .ok (.iconst 1, 1) := by decide +kernel
theorem dX1_measure_59 : decode cX1_measure 59 = .ok (.iastore, 1) := by decide +kernel
theorem dX1_measure_60 : decode cX1_measure 60 = .ok (.aload_n 0, 1) := by decide +kernel
theorem dX1_measure_61 : decode cX1_measure 61 = .ok (.getfield 34, 3) := by decide +kernel
theorem dX1_measure_64 : decode cX1_measure 64 = .ok (.iload_n 1, 1) := by decide +kernel
theorem dX1_measure_65 : decode cX1_measure 65 = .ok (.iload_n 2, 1) := by decide +kernel
theorem dX1_measure_66 : decode cX1_measure 66 = .ok (.iastore, 1) := by decide +kernel
theorem dX1_measure_67 : decode cX1_measure 67 = .ok (.iinc 1 1, 3) := by decide +kernel
theorem dX1_measure_70 : decode cX1_measure 70 = .ok (.iinc 2 1, 3) := by decide +kernel
theorem dX1_measure_73 : decode cX1_measure 73 = .ok (.goto (-56), 3) := by decide +kernel
theorem dX1_measure_76 : decode cX1_measure 76 = .ok (.aload_n 0, 1) := by decide +kernel
theorem dX1_measure_77 : decode cX1_measure 77 = .ok (.aload_n 0, 1) := by decide +kernel
theorem dX1_measure_78 : decode cX1_measure 78 = .ok (.getfield 9, 3) := by decide +kernel
theorem dX1_measure_81 : decode cX1_measure 81 = .ok (.aload_n 0, 1) := by decide +kernel
theorem dX1_measure_82 : decode cX1_measure 82 = .ok (.getfield 15, 3) := by decide +kernel
theorem dX1_measure_85 : decode cX1_measure 85 = .ok (.iload_n 1, 1) := by decide +kernel
theorem dX1_measure_86 : decode cX1_measure 86 = .ok (.invokevirtual 66, 3) := by decide +kernel
theorem dX1_measure_89 : decode cX1_measure 89 = .ok (.return_, 1) := by decide +kernel
theorem dX1_flood_0 : decode cX1_flood 0 = .ok (.iload_n 3, 1) := by decide +kernel
theorem dX1_flood_1 : decode cX1_flood 1 = .ok (.istore 4, 2) := by decide +kernel
theorem dX1_flood_3 : decode cX1_flood 3 = .ok (.iconst 0, 1) := by decide +kernel
theorem dX1_flood_4 : decode cX1_flood 4 = .ok (.istore 5, 2) := by decide +kernel
theorem dX1_flood_6 : decode cX1_flood 6 = .ok (.iload 5, 2) := by decide +kernel
theorem dX1_flood_8 : decode cX1_flood 8 = .ok (.iload 4, 2) := by decide +kernel
theorem dX1_flood_10 : decode cX1_flood 10 = .ok (.if_icmp .ge 154, 3) := by decide +kernel
theorem dX1_flood_13 : decode cX1_flood 13 = .ok (.iload 5, 2) := by decide +kernel
theorem dX1_flood_15 : decode cX1_flood 15 = .ok (.sipush 3840, 3) := by decide +kernel
theorem dX1_flood_18 : decode cX1_flood 18 = .ok (.if_icmp .ge 146, 3) := by decide +kernel
theorem dX1_flood_21 : decode cX1_flood 21 = .ok (.aload_n 0, 1) := by decide +kernel
theorem dX1_flood_22 : decode cX1_flood 22 = .ok (.getfield 34, 3) := by decide +kernel
theorem dX1_flood_25 : decode cX1_flood 25 = .ok (.iload 5, 2) := by decide +kernel
theorem dX1_flood_27 : decode cX1_flood 27 = .ok (.iaload, 1) := by decide +kernel
theorem dX1_flood_28 : decode cX1_flood 28 = .ok (.istore 6, 2) := by decide +kernel
theorem dX1_flood_30 : decode cX1_flood 30 = .ok (.aload_n 0, 1) := by decide +kernel
theorem dX1_flood_31 : decode cX1_flood 31 = .ok (.getfield 21, 3) := by decide +kernel
theorem dX1_flood_34 : decode cX1_flood 34 = .ok (.iload 6, 2) := by decide +kernel
theorem dX1_flood_36 : decode cX1_flood 36 = .ok (.invokevirtual 70, 3) := by decide +kernel
theorem dX1_flood_39 : decode cX1_flood 39 = .ok (.istore 7, 2) := by decide +kernel
theorem dX1_flood_41 : decode cX1_flood 41 = .ok (.iconst 0, 1) := by decide +kernel
theorem dX1_flood_42 : decode cX1_flood 42 = .ok (.istore 8, 2) := by decide +kernel
theorem dX1_flood_44 : decode cX1_flood 44 = .ok (.iload 8, 2) := by decide +kernel
theorem dX1_flood_46 : decode cX1_flood 46 = .ok (.aload_n 0, 1) := by decide +kernel
theorem dX1_flood_47 : decode cX1_flood 47 = .ok (.getfield 21, 3) := by decide +kernel
theorem dX1_flood_50 : decode cX1_flood 50 = .ok (.getfield 74, 3) := by decide +kernel
theorem dX1_flood_53 : decode cX1_flood 53 = .ok (.if_icmp .ge 105, 3) := by decide +kernel
theorem dX1_flood_158 : decode cX1_flood 158 = .ok (.iinc 5 1, 3) := by decide +kernel
theorem dX1_flood_161 : decode cX1_flood 161 = .ok (.goto (-155), 3) := by decide +kernel
theorem dX1_flood_164 : decode cX1_flood 164 = .ok (.return_, 1) := by decide +kernel
theorem dX1_setPrices_0 : decode cX1_setPrices 0 = .ok (.aload_n 0, 1) := by decide +kernel
theorem dX1_setPrices_1 : decode cX1_setPrices 1 = .ok (.getfield 45, 3) := by decide +kernel
theorem dX1_setPrices_4 : decode cX1_setPrices 4 = .ok (.ifCond .eq 4, 3) := by decide +kernel
theorem dX1_setPrices_8 : decode cX1_setPrices 8 = .ok (.aload_n 0, 1) := by decide +kernel
theorem dX1_setPrices_9 : decode cX1_setPrices 9 = .ok (.iconst 1, 1) := by decide +kernel
theorem dX1_setPrices_10 : decode cX1_setPrices 10 = .ok (.putfield 45, 3) := by decide +kernel
theorem dX1_setPrices_13 : decode cX1_setPrices 13 = .ok (.iconst 0, 1) := by decide +kernel
theorem dX1_setPrices_14 : decode cX1_setPrices 14 = .ok (.istore_n 1, 1) := by decide +kernel
theorem dX1_setPrices_15 : decode cX1_setPrices 15 = .ok (.aload_n 0, 1) := by decide +kernel
theorem dX1_setPrices_16 : decode cX1_setPrices 16 = .ok (.invokevirtual 85, 3) := by decide +kernel
theorem dX1_setPrices_19 : decode cX1_setPrices 19 = .ok (.istore_n 2, 1) := by decide +kernel
theorem dX1_setPrices_20 : decode cX1_setPrices 20 = .ok (.iconst 0, 1) := by decide +kernel
theorem dX1_setPrices_21 : decode cX1_setPrices 21 = .ok (.istore_n 3, 1) := by decide +kernel
theorem dX1_setPrices_22 : decode cX1_setPrices 22 = .ok (.iload_n 3, 1) := by decide +kernel
theorem dX1_setPrices_23 : decode cX1_setPrices 23 = .ok (.ldc 89, 2) := by decide +kernel
theorem dX1_setPrices_25 : decode cX1_setPrices 25 = .ok (.if_icmp .ge 197, 3) := by decide +kernel
theorem dX1_setPrices_28 : decode cX1_setPrices 28 = .ok (.iload_n 2, 1) := by decide +kernel
theorem dX1_setPrices_29 : decode cX1_setPrices 29 = .ok (.ifCond .le 193, 3) := by decide +kernel
theorem dX1_setPrices_32 : decode cX1_setPrices 32 = .ok (.aload_n 0, 1) := by decide +kernel
theorem dX1_setPrices_33 : decode cX1_setPrices 33 = .ok (.getfield 34, 3) := by decide +kernel
theorem dX1_setPrices_36 : decode cX1_setPrices 36 = .ok (.iload_n 1, 1) := by decide +kernel
theorem dX1_setPrices_37 : decode cX1_setPrices 37 = .ok (.iaload, 1) := by decide +kernel
theorem dX1_setPrices_38 : decode cX1_setPrices 38 = .ok (.istore 4, 2) := by decide +kernel
theorem dX1_setPrices_40 : decode cX1_setPrices 40 = .ok (.aload_n 0, 1) := by decide +kernel
theorem dX1_setPrices_41 : decode cX1_setPrices 41 = .ok (.getfield 38, 3) := by decide +kernel
theorem dX1_setPrices_44 : decode cX1_setPrices 44 = .ok (.iload 4, 2) := by decide +kernel
theorem dX1_setPrices_46 : decode cX1_setPrices 46 = .ok (.iconst 0, 1) := by decide +kernel
theorem dX1_setPrices_47 : decode cX1_setPrices 47 = .ok (.iastore, 1) := by decide +kernel
theorem dX1_setPrices_48 : decode cX1_setPrices 48 = .ok (.iload_n 1, 1) := by decide +kernel
theorem dX1_setPrices_49 : decode cX1_setPrices 49 = .ok (.iconst 1, 1) := by decide +kernel
theorem dX1_setPrices_50 : decode cX1_setPrices 50 = .ok (.iadd, 1) := by decide +kernel
theorem dX1_setPrices_51 : decode cX1_setPrices 51 = .ok (.invokestatic 90, 3) := by decide +kernel
theorem dX1_setPrices_54 : decode cX1_setPrices 54 = .ok (.istore_n 1, 1) := by decide +kernel
theorem dX1_setPrices_55 : decode cX1_setPrices 55 = .ok (.iinc 2 (-1), 3) := by decide +kernel
theorem dX1_setPrices_58 : decode cX1_setPrices 58 = .ok (.aload_n 0, 1) := by decide +kernel
theorem dX1_setPrices_59 : decode cX1_setPrices 59 = .ok (.getfield 21, 3) := by decide +kernel
theorem dX1_setPrices_62 : decode cX1_setPrices 62 = .ok (.iload 4, 2) := by decide +kernel
theorem dX1_setPrices_64 : decode cX1_setPrices 64 = .ok (.invokevirtual 70, 3) := by decide +kernel
theorem dX1_setPrices_67 : decode cX1_setPrices 67 = .ok (.istore 5, 2) := by decide +kernel
theorem dX1_setPrices_69 : decode cX1_setPrices 69 = .ok (.iconst 0, 1) := by decide +kernel
theorem dX1_setPrices_70 : decode cX1_setPrices 70 = .ok (.istore 6, 2) := by decide +kernel
theorem dX1_setPrices_72 : decode cX1_setPrices 72 = .ok (.iload 6, 2) := by decide +kernel
theorem dX1_setPrices_74 : decode cX1_setPrices 74 = .ok (.aload_n 0, 1) := by decide +kernel
theorem dX1_setPrices_75 : decode cX1_setPrices 75 = .ok (.getfield 21, 3) := by decide +kernel
theorem dX1_setPrices_78 : decode cX1_setPrices 78 = .ok (.getfield 74, 3) := by decide +kernel
theorem dX1_setPrices_81 : decode cX1_setPrices 81 = .ok (.if_icmp .ge 135, 3) := by decide +kernel
theorem dX1_setPrices_216 : decode cX1_setPrices 216 = .ok (.iinc 3 1, 3) := by decide +kernel
theorem dX1_setPrices_219 : decode cX1_setPrices 219 = .ok (.goto (-197), 3) := by decide +kernel
theorem dX1_setPrices_222 : decode cX1_setPrices 222 = .ok (.return_, 1) := by decide +kernel
theorem dX1_seedPrices_0 : decode cX1_seedPrices 0 = .ok (.iconst 0, 1) := by decide +kernel
theorem dX1_seedPrices_1 : decode cX1_seedPrices 1 = .ok (.istore_n 1, 1) := by decide +kernel
theorem dX1_seedPrices_2 : decode cX1_seedPrices 2 = .ok (.iconst 0, 1) := by decide +kernel
theorem dX1_seedPrices_3 : decode cX1_seedPrices 3 = .ok (.istore_n 2, 1) := by decide +kernel
theorem dX1_seedPrices_4 : decode cX1_seedPrices 4 = .ok (.iload_n 2, 1) := by decide +kernel
theorem dX1_seedPrices_5 : decode cX1_seedPrices 5 = .ok (.aload_n 0, 1) := by decide +kernel
theorem dX1_seedPrices_6 : decode cX1_seedPrices 6 = .ok (.getfield 21, 3) := by decide +kernel
theorem dX1_seedPrices_9 : decode cX1_seedPrices 9 = .ok (.getfield 54, 3) := by decide +kernel
theorem dX1_seedPrices_12 : decode cX1_seedPrices 12 = .ok (.if_icmp .ge 58, 3) := by decide +kernel
theorem dX1_seedPrices_15 : decode cX1_seedPrices 15 = .ok (.aload_n 0, 1) := by decide +kernel
theorem dX1_seedPrices_16 : decode cX1_seedPrices 16 = .ok (.getfield 18, 3) := by decide +kernel
theorem dX1_seedPrices_19 : decode cX1_seedPrices 19 = .ok (.iload_n 2, 1) := by decide +kernel
theorem dX1_seedPrices_20 : decode cX1_seedPrices 20 = .ok (.iconst (-1), 1) := by decide +kernel
theorem dX1_seedPrices_21 : decode cX1_seedPrices 21 = .ok (.iastore, 1) := by decide +kernel
theorem dX1_seedPrices_22 : decode cX1_seedPrices 22 = .ok (.aload_n 0, 1) := by decide +kernel
theorem dX1_seedPrices_23 : decode cX1_seedPrices 23 = .ok (.getfield 38, 3) := by decide +kernel
theorem dX1_seedPrices_26 : decode cX1_seedPrices 26 = .ok (.iload_n 2, 1) := by decide +kernel
theorem dX1_seedPrices_27 : decode cX1_seedPrices 27 = .ok (.iconst 0, 1) := by decide +kernel
theorem dX1_seedPrices_28 : decode cX1_seedPrices 28 = .ok (.iastore, 1) := by decide +kernel
theorem dX1_seedPrices_29 : decode cX1_seedPrices 29 = .ok (.aload_n 0, 1) := by decide +kernel
theorem dX1_seedPrices_30 : decode cX1_seedPrices 30 = .ok (.getfield 25, 3) := by decide +kernel
theorem dX1_seedPrices_33 : decode cX1_seedPrices 33 = .ok (.iload_n 2, 1) := by decide +kernel
theorem dX1_seedPrices_34 : decode cX1_seedPrices 34 = .ok (.invokevirtual 60, 3) := by decide +kernel
theorem dX1_seedPrices_37 : decode cX1_seedPrices 37 = .ok (.ifCond .eq 27, 3) := by decide +kernel
theorem dX1_seedPrices_40 : decode cX1_seedPrices 40 = .ok (.aload_n 0, 1) := by decide +kernel
theorem dX1_seedPrices_41 : decode cX1_seedPrices 41 = .ok (.getfield 18, 3) := by decide +kernel
theorem dX1_seedPrices_44 : decode cX1_seedPrices 44 = .ok (.iload_n 2, 1) := by decide +kernel
theorem dX1_seedPrices_45 : decode cX1_seedPrices 45 = .ok (.iconst 0, 1) := by decide +kernel
theorem dX1_seedPrices_46 : decode cX1_seedPrices 46 = .ok (.iastore, 1) := by decide +kernel
theorem dX1_seedPrices_47 : decode cX1_seedPrices 47 = .ok (.aload_n 0, 1) := by decide +kernel
theorem dX1_seedPrices_48 : decode cX1_seedPrices 48 = .ok (.getfield 38, 3) := by decide +kernel
theorem dX1_seedPrices_51 : decode cX1_seedPrices 51 = .ok (.iload_n 2, 1) := by decide +kernel
theorem dX1_seedPrices_52 : decode cX1_seedPrices 52 = .ok (.iconst 1, 1) := by decide +kernel
theorem dX1_seedPrices_53 : decode cX1_seedPrices 53 = .ok (.iastore, 1) := by decide +kernel
theorem dX1_seedPrices_54 : decode cX1_seedPrices 54 = .ok (.aload_n 0, 1) := by decide +kernel
theorem dX1_seedPrices_55 : decode cX1_seedPrices 55 = .ok (.getfield 34, 3) := by decide +kernel
theorem dX1_seedPrices_58 : decode cX1_seedPrices 58 = .ok (.iload_n 1, 1) := by decide +kernel
theorem dX1_seedPrices_59 : decode cX1_seedPrices 59 = .ok (.iload_n 2, 1) := by decide +kernel
theorem dX1_seedPrices_60 : decode cX1_seedPrices 60 = .ok (.iastore, 1) := by decide +kernel
theorem dX1_seedPrices_61 : decode cX1_seedPrices 61 = .ok (.iinc 1 1, 3) := by decide +kernel
theorem dX1_seedPrices_64 : decode cX1_seedPrices 64 = .ok (.iinc 2 1, 3) := by decide +kernel
theorem dX1_seedPrices_67 : decode cX1_seedPrices 67 = .ok (.goto (-63), 3) := by decide +kernel
theorem dX1_seedPrices_70 : decode cX1_seedPrices 70 = .ok (.iload_n 1, 1) := by decide +kernel
theorem dX1_seedPrices_71 : decode cX1_seedPrices 71 = .ok (.ireturn, 1) := by decide +kernel
theorem dX1_roundTheQueue_0 : decode cX1_roundTheQueue 0 = .ok (.iload_n 0, 1) := by decide +kernel
theorem dX1_roundTheQueue_1 : decode cX1_roundTheQueue 1 = .ok (.sipush 3840, 3) := by decide +kernel
theorem dX1_roundTheQueue_4 : decode cX1_roundTheQueue 4 = .ok (.if_icmp .ge 7, 3) := by decide +kernel
theorem dX1_roundTheQueue_7 : decode cX1_roundTheQueue 7 = .ok (.iload_n 0, 1) := by decide +kernel
theorem dX1_roundTheQueue_8 : decode cX1_roundTheQueue 8 = .ok (.goto 8, 3) := by decide +kernel
theorem dX1_roundTheQueue_16 : decode cX1_roundTheQueue 16 = .ok (.ireturn, 1) := by decide +kernel
theorem dX2_init_0 : decode cX2_init 0 = .ok (.aload_n 0, 1) := by decide +kernel
theorem dX2_init_1 : decode cX2_init 1 = .ok (.invokespecial 3, 3) := by decide +kernel
theorem dX2_init_4 : decode cX2_init 4 = .ok (.aload_n 0, 1) := by decide +kernel
theorem dX2_init_5 : decode cX2_init 5 = .ok (.aload_n 1, 1) := by decide +kernel
theorem dX2_init_6 : decode cX2_init 6 = .ok (.putfield 9, 3) := by decide +kernel
theorem dX2_init_9 : decode cX2_init 9 = .ok (.return_, 1) := by decide +kernel
theorem dX2_read_0 : decode cX2_read 0 = .ok (.aload_n 0, 1) := by decide +kernel
theorem dX2_read_1 : decode cX2_read 1 = .ok (.invokevirtual 15, 3) := by decide +kernel
theorem dX2_read_4 : decode cX2_read 4 = .ok (.istore_n 1, 1) := by decide +kernel
theorem dX2_read_5 : decode cX2_read 5 = .ok (.iload_n 1, 1) := by decide +kernel
theorem dX2_read_6 : decode cX2_read 6 = .ok (.ifCond .lt 9, 3) := by decide +kernel
theorem dX2_read_9 : decode cX2_read 9 = .ok (.sipush (-1000), 3) := by decide +kernel
theorem dX2_read_12 : decode cX2_read 12 = .ok (.iload_n 1, 1) := by decide +kernel
theorem dX2_read_13 : decode cX2_read 13 = .ok (.isub, 1) := by decide +kernel
theorem dX2_read_14 : decode cX2_read 14 = .ok (.ireturn, 1) := by decide +kernel
theorem dX2_firstMisfit_0 : decode cX2_firstMisfit 0 = .ok (.iconst 0, 1) := by decide +kernel
theorem dX2_firstMisfit_1 : decode cX2_firstMisfit 1 = .ok (.istore_n 1, 1) := by decide +kernel
theorem dX2_firstMisfit_2 : decode cX2_firstMisfit 2 = .ok (.aload_n 0, 1) := by decide +kernel
theorem dX2_firstMisfit_3 : decode cX2_firstMisfit 3 = .ok (.iload_n 1, 1) := by decide +kernel
theorem dX2_firstMisfit_4 : decode cX2_firstMisfit 4 = .ok (.invokevirtual 29, 3) := by decide +kernel
theorem dX2_firstMisfit_7 : decode cX2_firstMisfit 7 = .ok (.invokestatic 33, 3) := by decide +kernel
theorem dX2_firstMisfit_10 : decode cX2_firstMisfit 10 = .ok (.istore_n 2, 1) := by decide +kernel
theorem dX2_firstMisfit_11 : decode cX2_firstMisfit 11 = .ok (.iload_n 2, 1) := by decide +kernel
theorem dX2_firstMisfit_12 : decode cX2_firstMisfit 12 = .ok (.ifCond .ne 5, 3) := by decide +kernel
theorem dX2_firstMisfit_15 : decode cX2_firstMisfit 15 = .ok (.iload_n 1, 1) := by decide +kernel
theorem dX2_firstMisfit_16 : decode cX2_firstMisfit 16 = .ok (.ireturn, 1) := by decide +kernel
theorem dX2_letterAt_0 : decode cX2_letterAt 0 = .ok (.iload_n 1, 1) := by decide +kernel
theorem dX2_letterAt_1 : decode cX2_letterAt 1 = .ok (.aload_n 0, 1) := by decide +kernel
theorem dX2_letterAt_2 : decode cX2_letterAt 2 = .ok (.getfield 9, 3) := by decide +kernel
theorem dX2_letterAt_5 : decode cX2_letterAt 5 = .ok (.getfield 19, 3) := by decide +kernel
theorem dX2_letterAt_8 : decode cX2_letterAt 8 = .ok (.if_icmp .ge 15, 3) := by decide +kernel
theorem dX2_letterAt_23 : decode cX2_letterAt 23 = .ok (.iconst (-1), 1) := by decide +kernel
theorem dX2_letterAt_24 : decode cX2_letterAt 24 = .ok (.ireturn, 1) := by decide +kernel
theorem dX2_lengthOf_0 : decode cX2_lengthOf 0 = .ok (.iload_n 0, 1) := by decide +kernel
theorem dX2_lengthOf_1 : decode cX2_lengthOf 1 = .ok (.tableswitch 91 98 115 #[87, 89, 91, 91, 91, 91, 91, 91, 91, 87, 87, 87, 91, 91, 89, 91, 91, 89], 87) := by decide +kernel
theorem dX2_lengthOf_92 : decode cX2_lengthOf 92 = .ok (.iconst 0, 1) := by decide +kernel
theorem dX2_lengthOf_93 : decode cX2_lengthOf 93 = .ok (.ireturn, 1) := by decide +kernel
theorem dX3_init_0 : decode cX3_init 0 = .ok (.aload_n 0, 1) := by decide +kernel
theorem dX3_init_1 : decode cX3_init 1 = .ok (.invokespecial 3, 3) := by decide +kernel
theorem dX3_init_4 : decode cX3_init 4 = .ok (.aload_n 0, 1) := by decide +kernel
theorem dX3_init_5 : decode cX3_init 5 = .ok (.sipush 1800, 3) := by decide +kernel
theorem dX3_init_8 : decode cX3_init 8 = .ok (.newarray .boolean, 2) := by decide +kernel
theorem dX3_init_10 : decode cX3_init 10 = .ok (.putfield 9, 3) := by decide +kernel
theorem dX3_init_13 : decode cX3_init 13 = .ok (.aload_n 0, 1) := by decide +kernel
theorem dX3_init_14 : decode cX3_init 14 = .ok (.bipush 120, 2) := by decide +kernel
theorem dX3_init_16 : decode cX3_init 16 = .ok (.newarray .boolean, 2) := by decide +kernel
theorem dX3_init_18 : decode cX3_init 18 = .ok (.putfield 15, 3) := by decide +kernel
theorem dX3_init_21 : decode cX3_init 21 = .ok (.aload_n 0, 1) := by decide +kernel
theorem dX3_init_22 : decode cX3_init 22 = .ok (.iconst 5, 1) := by decide +kernel
theorem dX3_init_23 : decode cX3_init 23 = .ok (.newarray .int, 2) := by decide +kernel
theorem dX3_init_25 : decode cX3_init 25 = .ok (.putfield 18, 3) := by decide +kernel
theorem dX3_init_28 : decode cX3_init 28 = .ok (.aload_n 0, 1) := by decide +kernel
theorem dX3_init_29 : decode cX3_init 29 = .ok (.aload_n 1, 1) := by decide +kernel
theorem dX3_init_30 : decode cX3_init 30 = .ok (.putfield 22, 3) := by decide +kernel
theorem dX3_init_33 : decode cX3_init 33 = .ok (.aload_n 0, 1) := by decide +kernel
theorem dX3_init_34 : decode cX3_init 34 = .ok (.aload_n 2, 1) := by decide +kernel
theorem dX3_init_35 : decode cX3_init 35 = .ok (.putfield 26, 3) := by decide +kernel
theorem dX3_init_38 : decode cX3_init 38 = .ok (.aload_n 0, 1) := by decide +kernel
theorem dX3_init_39 : decode cX3_init 39 = .ok (.getfield 15, 3) := by decide +kernel
theorem dX3_init_42 : decode cX3_init 42 = .ok (.iconst 0, 1) := by decide +kernel
theorem dX3_init_43 : decode cX3_init 43 = .ok (.iconst 1, 1) := by decide +kernel
theorem dX3_init_44 : decode cX3_init 44 = .ok (.bastore, 1) := by decide +kernel
theorem dX3_init_45 : decode cX3_init 45 = .ok (.return_, 1) := by decide +kernel
theorem dX3_settle_0 : decode cX3_settle 0 = .ok (.aload_n 0, 1) := by decide +kernel
theorem dX3_settle_1 : decode cX3_settle 1 = .ok (.invokevirtual 30, 3) := by decide +kernel
theorem dX3_settle_4 : decode cX3_settle 4 = .ok (.iconst 0, 1) := by decide +kernel
theorem dX3_settle_5 : decode cX3_settle 5 = .ok (.istore_n 1, 1) := by decide +kernel
theorem dX3_settle_6 : decode cX3_settle 6 = .ok (.iload_n 1, 1) := by decide +kernel
theorem dX3_settle_7 : decode cX3_settle 7 = .ok (.aload_n 0, 1) := by decide +kernel
theorem dX3_settle_8 : decode cX3_settle 8 = .ok (.getfield 26, 3) := by decide +kernel
theorem dX3_settle_11 : decode cX3_settle 11 = .ok (.getfield 33, 3) := by decide +kernel
theorem dX3_settle_14 : decode cX3_settle 14 = .ok (.if_icmp .ge 56, 3) := by decide +kernel
theorem dX3_settle_17 : decode cX3_settle 17 = .ok (.aload_n 0, 1) := by decide +kernel
theorem dX3_settle_18 : decode cX3_settle 18 = .ok (.getfield 15, 3) := by decide +kernel
theorem dX3_settle_21 : decode cX3_settle 21 = .ok (.iload_n 1, 1) := by decide +kernel
theorem dX3_settle_22 : decode cX3_settle 22 = .ok (.aload_n 0, 1) := by decide +kernel
theorem dX3_settle_23 : decode cX3_settle 23 = .ok (.iload_n 1, 1) := by decide +kernel
theorem dX3_settle_24 : decode cX3_settle 24 = .ok (.invokevirtual 39, 3) := by decide +kernel
theorem dX3_settle_27 : decode cX3_settle 27 = .ok (.bastore, 1) := by decide +kernel
theorem dX3_settle_28 : decode cX3_settle 28 = .ok (.iconst 0, 1) := by decide +kernel
theorem dX3_settle_29 : decode cX3_settle 29 = .ok (.istore_n 2, 1) := by decide +kernel
theorem dX3_settle_30 : decode cX3_settle 30 = .ok (.iload_n 2, 1) := by decide +kernel
theorem dX3_settle_31 : decode cX3_settle 31 = .ok (.aload_n 0, 1) := by decide +kernel
theorem dX3_settle_32 : decode cX3_settle 32 = .ok (.getfield 26, 3) := by decide +kernel
theorem dX3_settle_35 : decode cX3_settle 35 = .ok (.getfield 43, 3) := by decide +kernel
theorem dX3_settle_38 : decode cX3_settle 38 = .ok (.if_icmp .ge 26, 3) := by decide +kernel
theorem dX3_settle_64 : decode cX3_settle 64 = .ok (.iinc 1 1, 3) := by decide +kernel
theorem dX3_settle_67 : decode cX3_settle 67 = .ok (.goto (-61), 3) := by decide +kernel
theorem dX3_settle_70 : decode cX3_settle 70 = .ok (.return_, 1) := by decide +kernel
theorem dX3_rankSizes_0 : decode cX3_rankSizes 0 = .ok (.iconst 0, 1) := by decide +kernel
theorem dX3_rankSizes_1 : decode cX3_rankSizes 1 = .ok (.istore_n 1, 1) := by decide +kernel
theorem dX3_rankSizes_2 : decode cX3_rankSizes 2 = .ok (.iconst 0, 1) := by decide +kernel
theorem dX3_rankSizes_3 : decode cX3_rankSizes 3 = .ok (.istore_n 2, 1) := by decide +kernel
theorem dX3_rankSizes_4 : decode cX3_rankSizes 4 = .ok (.iload_n 2, 1) := by decide +kernel
theorem dX3_rankSizes_5 : decode cX3_rankSizes 5 = .ok (.aload_n 0, 1) := by decide +kernel
theorem dX3_rankSizes_6 : decode cX3_rankSizes 6 = .ok (.getfield 22, 3) := by decide +kernel
theorem dX3_rankSizes_9 : decode cX3_rankSizes 9 = .ok (.getfield 50, 3) := by decide +kernel
theorem dX3_rankSizes_12 : decode cX3_rankSizes 12 = .ok (.if_icmp .ge 23, 3) := by decide +kernel
theorem dX3_rankSizes_35 : decode cX3_rankSizes 35 = .ok (.iconst 0, 1) := by decide +kernel
theorem dX3_rankSizes_36 : decode cX3_rankSizes 36 = .ok (.istore_n 2, 1) := by decide +kernel
theorem dX3_rankSizes_37 : decode cX3_rankSizes 37 = .ok (.iload_n 2, 1) := by decide +kernel
theorem dX3_rankSizes_38 : decode cX3_rankSizes 38 = .ok (.aload_n 0, 1) := by decide +kernel
theorem dX3_rankSizes_39 : decode cX3_rankSizes 39 = .ok (.getfield 22, 3) := by decide +kernel
theorem dX3_rankSizes_42 : decode cX3_rankSizes 42 = .ok (.getfield 50, 3) := by decide +kernel
theorem dX3_rankSizes_45 : decode cX3_rankSizes 45 = .ok (.if_icmp .ge 35, 3) := by decide +kernel
theorem dX3_rankSizes_80 : decode cX3_rankSizes 80 = .ok (.aload_n 0, 1) := by decide +kernel
theorem dX3_rankSizes_81 : decode cX3_rankSizes 81 = .ok (.iload_n 1, 1) := by decide +kernel
theorem dX3_rankSizes_82 : decode cX3_rankSizes 82 = .ok (.invokestatic 58, 3) := by decide +kernel
theorem dX3_rankSizes_85 : decode cX3_rankSizes 85 = .ok (.putfield 64, 3) := by decide +kernel
theorem dX3_rankSizes_88 : decode cX3_rankSizes 88 = .ok (.return_, 1) := by decide +kernel
theorem dX3_isSorted_0 : decode cX3_isSorted 0 = .ok (.iconst 1, 1) := by decide +kernel
theorem dX3_isSorted_1 : decode cX3_isSorted 1 = .ok (.istore_n 2, 1) := by decide +kernel
theorem dX3_isSorted_2 : decode cX3_isSorted 2 = .ok (.iload_n 2, 1) := by decide +kernel
theorem dX3_isSorted_3 : decode cX3_isSorted 3 = .ok (.aload_n 0, 1) := by decide +kernel
theorem dX3_isSorted_4 : decode cX3_isSorted 4 = .ok (.getfield 26, 3) := by decide +kernel
theorem dX3_isSorted_7 : decode cX3_isSorted 7 = .ok (.getfield 67, 3) := by decide +kernel
theorem dX3_isSorted_10 : decode cX3_isSorted 10 = .ok (.if_icmp .ge 28, 3) := by decide +kernel
theorem dX3_isSorted_38 : decode cX3_isSorted 38 = .ok (.iconst 1, 1) := by decide +kernel
theorem dX3_isSorted_39 : decode cX3_isSorted 39 = .ok (.ireturn, 1) := by decide +kernel
theorem dX3_arranged_0 : decode cX3_arranged 0 = .ok (.iload_n 1, 1) := by decide +kernel
theorem dX3_arranged_1 : decode cX3_arranged 1 = .ok (.aload_n 0, 1) := by decide +kernel
theorem dX3_arranged_2 : decode cX3_arranged 2 = .ok (.getfield 26, 3) := by decide +kernel
theorem dX3_arranged_5 : decode cX3_arranged 5 = .ok (.getfield 94, 3) := by decide +kernel
theorem dX3_arranged_8 : decode cX3_arranged 8 = .ok (.iconst 1, 1) := by decide +kernel
theorem dX3_arranged_9 : decode cX3_arranged 9 = .ok (.isub, 1) := by decide +kernel
theorem dX3_arranged_10 : decode cX3_arranged 10 = .ok (.iand, 1) := by decide +kernel
theorem dX3_arranged_11 : decode cX3_arranged 11 = .ok (.ifCond .ne 7, 3) := by decide +kernel
theorem dX3_arranged_14 : decode cX3_arranged 14 = .ok (.iconst 1, 1) := by decide +kernel
theorem dX3_arranged_15 : decode cX3_arranged 15 = .ok (.goto 4, 3) := by decide +kernel
theorem dX3_arranged_19 : decode cX3_arranged 19 = .ok (.istore_n 2, 1) := by decide +kernel
theorem dX3_arranged_20 : decode cX3_arranged 20 = .ok (.aload_n 0, 1) := by decide +kernel
theorem dX3_arranged_21 : decode cX3_arranged 21 = .ok (.getfield 15, 3) := by decide +kernel
theorem dX3_arranged_24 : decode cX3_arranged 24 = .ok (.iload_n 1, 1) := by decide +kernel
theorem dX3_arranged_25 : decode cX3_arranged 25 = .ok (.aload_n 0, 1) := by decide +kernel
theorem dX3_arranged_26 : decode cX3_arranged 26 = .ok (.getfield 26, 3) := by decide +kernel
theorem dX3_arranged_29 : decode cX3_arranged 29 = .ok (.getfield 67, 3) := by decide +kernel
theorem dX3_arranged_32 : decode cX3_arranged 32 = .ok (.ishr, 1) := by decide +kernel
theorem dX3_arranged_33 : decode cX3_arranged 33 = .ok (.baload, 1) := by decide +kernel
theorem dX3_arranged_34 : decode cX3_arranged 34 = .ok (.ifCond .eq 21, 3) := by decide +kernel
theorem dX3_arranged_37 : decode cX3_arranged 37 = .ok (.iload_n 2, 1) := by decide +kernel
theorem dX3_arranged_38 : decode cX3_arranged 38 = .ok (.ifCond .ne 13, 3) := by decide +kernel
theorem dX3_arranged_51 : decode cX3_arranged 51 = .ok (.iconst 1, 1) := by decide +kernel
theorem dX3_arranged_52 : decode cX3_arranged 52 = .ok (.goto 4, 3) := by decide +kernel
theorem dX3_arranged_56 : decode cX3_arranged 56 = .ok (.ireturn, 1) := by decide +kernel
theorem dX3_howManyLawful_0 : decode cX3_howManyLawful 0 = .ok (.iconst 0, 1) := by decide +kernel
theorem dX3_howManyLawful_1 : decode cX3_howManyLawful 1 = .ok (.istore_n 2, 1) := by decide +kernel
theorem dX3_howManyLawful_2 : decode cX3_howManyLawful 2 = .ok (.iconst 0, 1) := by decide +kernel
theorem dX3_howManyLawful_3 : decode cX3_howManyLawful 3 = .ok (.istore_n 3, 1) := by decide +kernel
theorem dX3_howManyLawful_4 : decode cX3_howManyLawful 4 = .ok (.iload_n 3, 1) := by decide +kernel
theorem dX3_howManyLawful_5 : decode cX3_howManyLawful 5 = .ok (.aload_n 0, 1) := by decide +kernel
theorem dX3_howManyLawful_6 : decode cX3_howManyLawful 6 = .ok (.getfield 26, 3) := by decide +kernel
theorem dX3_howManyLawful_9 : decode cX3_howManyLawful 9 = .ok (.getfield 43, 3) := by decide +kernel
theorem dX3_howManyLawful_12 : decode cX3_howManyLawful 12 = .ok (.if_icmp .ge 21, 3) := by decide +kernel
theorem dX3_howManyLawful_33 : decode cX3_howManyLawful 33 = .ok (.iload_n 2, 1) := by decide +kernel
theorem dX3_howManyLawful_34 : decode cX3_howManyLawful 34 = .ok (.ireturn, 1) := by decide +kernel
theorem dX3_gapsOf_0 : decode cX3_gapsOf 0 = .ok (.iconst 0, 1) := by decide +kernel
theorem dX3_gapsOf_1 : decode cX3_gapsOf 1 = .ok (.istore_n 2, 1) := by decide +kernel
theorem dX3_gapsOf_2 : decode cX3_gapsOf 2 = .ok (.iconst 0, 1) := by decide +kernel
theorem dX3_gapsOf_3 : decode cX3_gapsOf 3 = .ok (.istore_n 3, 1) := by decide +kernel
theorem dX3_gapsOf_4 : decode cX3_gapsOf 4 = .ok (.iload_n 3, 1) := by decide +kernel
theorem dX3_gapsOf_5 : decode cX3_gapsOf 5 = .ok (.aload_n 0, 1) := by decide +kernel
theorem dX3_gapsOf_6 : decode cX3_gapsOf 6 = .ok (.getfield 26, 3) := by decide +kernel
theorem dX3_gapsOf_9 : decode cX3_gapsOf 9 = .ok (.getfield 67, 3) := by decide +kernel
theorem dX3_gapsOf_12 : decode cX3_gapsOf 12 = .ok (.if_icmp .ge 21, 3) := by decide +kernel
theorem dX3_gapsOf_33 : decode cX3_gapsOf 33 = .ok (.iload_n 2, 1) := by decide +kernel
theorem dX3_gapsOf_34 : decode cX3_gapsOf 34 = .ok (.ireturn, 1) := by decide +kernel
theorem dX4_init_0 : decode cX4_init 0 = .ok (.aload_n 0, 1) := by decide +kernel
theorem dX4_init_1 : decode cX4_init 1 = .ok (.invokespecial 3, 3) := by decide +kernel
theorem dX4_init_4 : decode cX4_init 4 = .ok (.aload_n 0, 1) := by decide +kernel
theorem dX4_init_5 : decode cX4_init 5 = .ok (.sipush 3840, 3) := by decide +kernel
theorem dX4_init_8 : decode cX4_init 8 = .ok (.newarray .int, 2) := by decide +kernel
theorem dX4_init_10 : decode cX4_init 10 = .ok (.putfield 9, 3) := by decide +kernel
theorem dX4_init_13 : decode cX4_init 13 = .ok (.aload_n 0, 1) := by decide +kernel
theorem dX4_init_14 : decode cX4_init 14 = .ok (.sipush 3840, 3) := by decide +kernel
theorem dX4_init_17 : decode cX4_init 17 = .ok (.newarray .int, 2) := by decide +kernel
theorem dX4_init_19 : decode cX4_init 19 = .ok (.putfield 15, 3) := by decide +kernel
theorem dX4_init_22 : decode cX4_init 22 = .ok (.aload_n 0, 1) := by decide +kernel
theorem dX4_init_23 : decode cX4_init 23 = .ok (.sipush 3840, 3) := by decide +kernel
theorem dX4_init_26 : decode cX4_init 26 = .ok (.newarray .int, 2) := by decide +kernel
theorem dX4_init_28 : decode cX4_init 28 = .ok (.putfield 18, 3) := by decide +kernel
theorem dX4_init_31 : decode cX4_init 31 = .ok (.return_, 1) := by decide +kernel
theorem dX5_init_0 : decode cX5_init 0 = .ok (.aload_n 0, 1) := by decide +kernel
theorem dX5_init_1 : decode cX5_init 1 = .ok (.invokespecial 3, 3) := by decide +kernel
theorem dX5_init_4 : decode cX5_init 4 = .ok (.aload_n 0, 1) := by decide +kernel
theorem dX5_init_5 : decode cX5_init 5 = .ok (.iconst 1, 1) := by decide +kernel
theorem dX5_init_6 : decode cX5_init 6 = .ok (.putfield 9, 3) := by decide +kernel
theorem dX5_init_9 : decode cX5_init 9 = .ok (.aload_n 0, 1) := by decide +kernel
theorem dX5_init_10 : decode cX5_init 10 = .ok (.iconst 1, 1) := by decide +kernel
theorem dX5_init_11 : decode cX5_init 11 = .ok (.putfield 15, 3) := by decide +kernel
theorem dX5_init_14 : decode cX5_init 14 = .ok (.aload_n 0, 1) := by decide +kernel
theorem dX5_init_15 : decode cX5_init 15 = .ok (.iconst 1, 1) := by decide +kernel
theorem dX5_init_16 : decode cX5_init 16 = .ok (.putfield 18, 3) := by decide +kernel
theorem dX5_init_19 : decode cX5_init 19 = .ok (.aload_n 0, 1) := by decide +kernel
theorem dX5_init_20 : decode cX5_init 20 = .ok (.bipush 15, 2) := by decide +kernel
theorem dX5_init_22 : decode cX5_init 22 = .ok (.newarray .int, 2) := by decide +kernel
theorem dX5_init_24 : decode cX5_init 24 = .ok (.putfield 21, 3) := by decide +kernel
theorem dX5_init_27 : decode cX5_init 27 = .ok (.aload_n 0, 1) := by decide +kernel
theorem dX5_init_28 : decode cX5_init 28 = .ok (.bipush 15, 2) := by decide +kernel
theorem dX5_init_30 : decode cX5_init 30 = .ok (.newarray .int, 2) := by decide +kernel
theorem dX5_init_32 : decode cX5_init 32 = .ok (.putfield 25, 3) := by decide +kernel
theorem dX5_init_35 : decode cX5_init 35 = .ok (.aload_n 0, 1) := by decide +kernel
theorem dX5_init_36 : decode cX5_init 36 = .ok (.sipush 600, 3) := by decide +kernel
theorem dX5_init_39 : decode cX5_init 39 = .ok (.newarray .int, 2) := by decide +kernel
theorem dX5_init_41 : decode cX5_init 41 = .ok (.putfield 28, 3) := by decide +kernel
theorem dX5_init_44 : decode cX5_init 44 = .ok (.aload_n 0, 1) := by decide +kernel
theorem dX5_init_45 : decode cX5_init 45 = .ok (.sipush 1800, 3) := by decide +kernel
theorem dX5_init_48 : decode cX5_init 48 = .ok (.newarray .int, 2) := by decide +kernel
theorem dX5_init_50 : decode cX5_init 50 = .ok (.putfield 31, 3) := by decide +kernel
theorem dX5_init_53 : decode cX5_init 53 = .ok (.aload_n 0, 1) := by decide +kernel
theorem dX5_init_54 : decode cX5_init 54 = .ok (.sipush 480, 3) := by decide +kernel
theorem dX5_init_57 : decode cX5_init 57 = .ok (.newarray .int, 2) := by decide +kernel
theorem dX5_init_59 : decode cX5_init 59 = .ok (.putfield 34, 3) := by decide +kernel
theorem dX5_init_62 : decode cX5_init 62 = .ok (.aload_n 0, 1) := by decide +kernel
theorem dX5_init_63 : decode cX5_init 63 = .ok (.iconst 5, 1) := by decide +kernel
theorem dX5_init_64 : decode cX5_init 64 = .ok (.newarray .int, 2) := by decide +kernel
theorem dX5_init_66 : decode cX5_init 66 = .ok (.putfield 37, 3) := by decide +kernel
theorem dX5_init_69 : decode cX5_init 69 = .ok (.return_, 1) := by decide +kernel
theorem dX5_shape_0 : decode cX5_shape 0 = .ok (.iload_n 1, 1) := by decide +kernel
theorem dX5_shape_1 : decode cX5_shape 1 = .ok (.aload_n 0, 1) := by decide +kernel
theorem dX5_shape_2 : decode cX5_shape 2 = .ok (.getfield 40, 3) := by decide +kernel
theorem dX5_shape_5 : decode cX5_shape 5 = .ok (.if_icmp .eq 12, 3) := by decide +kernel
theorem dX5_shape_17 : decode cX5_shape 17 = .ok (.return_, 1) := by decide +kernel
theorem dX5_orderOf_0 : decode cX5_orderOf 0 = .ok (.iconst 0, 1) := by decide +kernel
theorem dX5_orderOf_1 : decode cX5_orderOf 1 = .ok (.istore_n 2, 1) := by decide +kernel
theorem dX5_orderOf_2 : decode cX5_orderOf 2 = .ok (.iconst 0, 1) := by decide +kernel
theorem dX5_orderOf_3 : decode cX5_orderOf 3 = .ok (.istore_n 3, 1) := by decide +kernel
theorem dX5_orderOf_4 : decode cX5_orderOf 4 = .ok (.iload_n 3, 1) := by decide +kernel
theorem dX5_orderOf_5 : decode cX5_orderOf 5 = .ok (.aload_n 0, 1) := by decide +kernel
theorem dX5_orderOf_6 : decode cX5_orderOf 6 = .ok (.getfield 40, 3) := by decide +kernel
theorem dX5_orderOf_9 : decode cX5_orderOf 9 = .ok (.if_icmp .ge 63, 3) := by decide +kernel
theorem dX5_orderOf_72 : decode cX5_orderOf 72 = .ok (.iload_n 2, 1) := by decide +kernel
theorem dX5_orderOf_73 : decode cX5_orderOf 73 = .ok (.ireturn, 1) := by decide +kernel
theorem dX5_sidesOf_0 : decode cX5_sidesOf 0 = .ok (.iconst 0, 1) := by decide +kernel
theorem dX5_sidesOf_1 : decode cX5_sidesOf 1 = .ok (.istore_n 2, 1) := by decide +kernel
theorem dX5_sidesOf_2 : decode cX5_sidesOf 2 = .ok (.iconst 0, 1) := by decide +kernel
theorem dX5_sidesOf_3 : decode cX5_sidesOf 3 = .ok (.istore_n 3, 1) := by decide +kernel
theorem dX5_sidesOf_4 : decode cX5_sidesOf 4 = .ok (.iload_n 3, 1) := by decide +kernel
theorem dX5_sidesOf_5 : decode cX5_sidesOf 5 = .ok (.aload_n 0, 1) := by decide +kernel
theorem dX5_sidesOf_6 : decode cX5_sidesOf 6 = .ok (.getfield 40, 3) := by decide +kernel
theorem dX5_sidesOf_9 : decode cX5_sidesOf 9 = .ok (.if_icmp .ge 20, 3) := by decide +kernel
theorem dX5_sidesOf_29 : decode cX5_sidesOf 29 = .ok (.iload_n 2, 1) := by decide +kernel
theorem dX5_sidesOf_30 : decode cX5_sidesOf 30 = .ok (.ireturn, 1) := by decide +kernel
theorem dX5_stateOf_0 : decode cX5_stateOf 0 = .ok (.aload_n 0, 1) := by decide +kernel
theorem dX5_stateOf_1 : decode cX5_stateOf 1 = .ok (.aload_n 1, 1) := by decide +kernel
theorem dX5_stateOf_2 : decode cX5_stateOf 2 = .ok (.invokevirtual 76, 3) := by decide +kernel
theorem dX5_stateOf_5 : decode cX5_stateOf 5 = .ok (.aload_n 0, 1) := by decide +kernel
theorem dX5_stateOf_6 : decode cX5_stateOf 6 = .ok (.getfield 40, 3) := by decide +kernel
theorem dX5_stateOf_9 : decode cX5_stateOf 9 = .ok (.ishl, 1) := by decide +kernel
theorem dX5_stateOf_10 : decode cX5_stateOf 10 = .ok (.aload_n 0, 1) := by decide +kernel
theorem dX5_stateOf_11 : decode cX5_stateOf 11 = .ok (.aload_n 1, 1) := by decide +kernel
theorem dX5_stateOf_12 : decode cX5_stateOf 12 = .ok (.invokevirtual 84, 3) := by decide +kernel
theorem dX5_stateOf_15 : decode cX5_stateOf 15 = .ok (.ior, 1) := by decide +kernel
theorem dX5_stateOf_16 : decode cX5_stateOf 16 = .ok (.ireturn, 1) := by decide +kernel
theorem dX5_orderIn_0 : decode cX5_orderIn 0 = .ok (.iload_n 1, 1) := by decide +kernel
theorem dX5_orderIn_1 : decode cX5_orderIn 1 = .ok (.aload_n 0, 1) := by decide +kernel
theorem dX5_orderIn_2 : decode cX5_orderIn 2 = .ok (.getfield 40, 3) := by decide +kernel
theorem dX5_orderIn_5 : decode cX5_orderIn 5 = .ok (.ishr, 1) := by decide +kernel
theorem dX5_orderIn_6 : decode cX5_orderIn 6 = .ok (.ireturn, 1) := by decide +kernel
theorem dX5_stateWith_0 : decode cX5_stateWith 0 = .ok (.iconst 0, 1) := by decide +kernel
theorem dX5_stateWith_1 : decode cX5_stateWith 1 = .ok (.istore_n 3, 1) := by decide +kernel
theorem dX5_stateWith_2 : decode cX5_stateWith 2 = .ok (.iconst 0, 1) := by decide +kernel
theorem dX5_stateWith_3 : decode cX5_stateWith 3 = .ok (.istore 4, 2) := by decide +kernel
theorem dX5_stateWith_5 : decode cX5_stateWith 5 = .ok (.iload 4, 2) := by decide +kernel
theorem dX5_stateWith_7 : decode cX5_stateWith 7 = .ok (.aload_n 0, 1) := by decide +kernel
theorem dX5_stateWith_8 : decode cX5_stateWith 8 = .ok (.getfield 40, 3) := by decide +kernel
theorem dX5_stateWith_11 : decode cX5_stateWith 11 = .ok (.if_icmp .ge 25, 3) := by decide +kernel
theorem dX5_stateWith_36 : decode cX5_stateWith 36 = .ok (.iload_n 1, 1) := by decide +kernel
theorem dX5_stateWith_37 : decode cX5_stateWith 37 = .ok (.aload_n 0, 1) := by decide +kernel
theorem dX5_stateWith_38 : decode cX5_stateWith 38 = .ok (.getfield 40, 3) := by decide +kernel
theorem dX5_stateWith_41 : decode cX5_stateWith 41 = .ok (.ishl, 1) := by decide +kernel
theorem dX5_stateWith_42 : decode cX5_stateWith 42 = .ok (.iload_n 3, 1) := by decide +kernel
theorem dX5_stateWith_43 : decode cX5_stateWith 43 = .ok (.ior, 1) := by decide +kernel
theorem dX5_stateWith_44 : decode cX5_stateWith 44 = .ok (.ireturn, 1) := by decide +kernel
theorem dX5_turnOf_0 : decode cX5_turnOf 0 = .ok (.iconst 0, 1) := by decide +kernel
theorem dX5_turnOf_1 : decode cX5_turnOf 1 = .ok (.istore_n 3, 1) := by decide +kernel
theorem dX5_turnOf_2 : decode cX5_turnOf 2 = .ok (.iload_n 3, 1) := by decide +kernel
theorem dX5_turnOf_3 : decode cX5_turnOf 3 = .ok (.aload_n 0, 1) := by decide +kernel
theorem dX5_turnOf_4 : decode cX5_turnOf 4 = .ok (.getfield 56, 3) := by decide +kernel
theorem dX5_turnOf_7 : decode cX5_turnOf 7 = .ok (.if_icmp .ge 31, 3) := by decide +kernel
theorem dX5_turnOf_38 : decode cX5_turnOf 38 = .ok (.iconst (-1), 1) := by decide +kernel
theorem dX5_turnOf_39 : decode cX5_turnOf 39 = .ok (.ireturn, 1) := by decide +kernel
theorem dX6_init_0 : decode cX6_init 0 = .ok (.aload_n 0, 1) := by decide +kernel
theorem dX6_init_1 : decode cX6_init 1 = .ok (.invokespecial 3, 3) := by decide +kernel
theorem dX6_init_4 : decode cX6_init 4 = .ok (.aload_n 0, 1) := by decide +kernel
theorem dX6_init_5 : decode cX6_init 5 = .ok (.iconst 5, 1) := by decide +kernel
theorem dX6_init_6 : decode cX6_init 6 = .ok (.newarray .int, 2) := by decide +kernel
theorem dX6_init_8 : decode cX6_init 8 = .ok (.putfield 9, 3) := by decide +kernel
theorem dX6_init_11 : decode cX6_init 11 = .ok (.aload_n 0, 1) := by decide +kernel
theorem dX6_init_12 : decode cX6_init 12 = .ok (.iconst 5, 1) := by decide +kernel
theorem dX6_init_13 : decode cX6_init 13 = .ok (.newarray .int, 2) := by decide +kernel
theorem dX6_init_15 : decode cX6_init 15 = .ok (.putfield 15, 3) := by decide +kernel
theorem dX6_init_18 : decode cX6_init 18 = .ok (.aload_n 0, 1) := by decide +kernel
theorem dX6_init_19 : decode cX6_init 19 = .ok (.iconst 5, 1) := by decide +kernel
theorem dX6_init_20 : decode cX6_init 20 = .ok (.putfield 18, 3) := by decide +kernel
theorem dX6_init_23 : decode cX6_init 23 = .ok (.aload_n 0, 1) := by decide +kernel
theorem dX6_init_24 : decode cX6_init 24 = .ok (.bipush 9, 2) := by decide +kernel
theorem dX6_init_26 : decode cX6_init 26 = .ok (.putfield 22, 3) := by decide +kernel
theorem dX6_init_29 : decode cX6_init 29 = .ok (.aload_n 0, 1) := by decide +kernel
theorem dX6_init_30 : decode cX6_init 30 = .ok (.iconst 1, 1) := by decide +kernel
theorem dX6_init_31 : decode cX6_init 31 = .ok (.putfield 25, 3) := by decide +kernel
theorem dX6_init_34 : decode cX6_init 34 = .ok (.aload_n 0, 1) := by decide +kernel
theorem dX6_init_35 : decode cX6_init 35 = .ok (.bipush 6, 2) := by decide +kernel
theorem dX6_init_37 : decode cX6_init 37 = .ok (.newarray .int, 2) := by decide +kernel
theorem dX6_init_39 : decode cX6_init 39 = .ok (.putfield 28, 3) := by decide +kernel
theorem dX6_init_42 : decode cX6_init 42 = .ok (.aload_n 0, 1) := by decide +kernel
theorem dX6_init_43 : decode cX6_init 43 = .ok (.bipush 6, 2) := by decide +kernel
theorem dX6_init_45 : decode cX6_init 45 = .ok (.newarray .int, 2) := by decide +kernel
theorem dX6_init_47 : decode cX6_init 47 = .ok (.putfield 31, 3) := by decide +kernel
theorem dX6_init_50 : decode cX6_init 50 = .ok (.aload_n 0, 1) := by decide +kernel
theorem dX6_init_51 : decode cX6_init 51 = .ok (.bipush 64, 2) := by decide +kernel
theorem dX6_init_53 : decode cX6_init 53 = .ok (.newarray .int, 2) := by decide +kernel
theorem dX6_init_55 : decode cX6_init 55 = .ok (.putfield 34, 3) := by decide +kernel
theorem dX6_init_58 : decode cX6_init 58 = .ok (.aload_n 0, 1) := by decide +kernel
theorem dX6_init_59 : decode cX6_init 59 = .ok (.bipush 8, 2) := by decide +kernel
theorem dX6_init_61 : decode cX6_init 61 = .ok (.newarray .int, 2) := by decide +kernel
theorem dX6_init_63 : decode cX6_init 63 = .ok (.putfield 37, 3) := by decide +kernel
theorem dX6_init_66 : decode cX6_init 66 = .ok (.return_, 1) := by decide +kernel
theorem dX6_takeFrom_0 : decode cX6_takeFrom 0 = .ok (.aload_n 0, 1) := by decide +kernel
theorem dX6_takeFrom_1 : decode cX6_takeFrom 1 = .ok (.aload_n 1, 1) := by decide +kernel
theorem dX6_takeFrom_2 : decode cX6_takeFrom 2 = .ok (.getfield 40, 3) := by decide +kernel
theorem dX6_takeFrom_5 : decode cX6_takeFrom 5 = .ok (.putfield 40, 3) := by decide +kernel
theorem dX6_takeFrom_8 : decode cX6_takeFrom 8 = .ok (.aload_n 0, 1) := by decide +kernel
theorem dX6_takeFrom_9 : decode cX6_takeFrom 9 = .ok (.aload_n 1, 1) := by decide +kernel
theorem dX6_takeFrom_10 : decode cX6_takeFrom 10 = .ok (.getfield 43, 3) := by decide +kernel
theorem dX6_takeFrom_13 : decode cX6_takeFrom 13 = .ok (.putfield 43, 3) := by decide +kernel
theorem dX6_takeFrom_16 : decode cX6_takeFrom 16 = .ok (.aload_n 0, 1) := by decide +kernel
theorem dX6_takeFrom_17 : decode cX6_takeFrom 17 = .ok (.aload_n 1, 1) := by decide +kernel
theorem dX6_takeFrom_18 : decode cX6_takeFrom 18 = .ok (.getfield 18, 3) := by decide +kernel
theorem dX6_takeFrom_21 : decode cX6_takeFrom 21 = .ok (.putfield 18, 3) := by decide +kernel
theorem dX6_takeFrom_24 : decode cX6_takeFrom 24 = .ok (.aload_n 0, 1) := by decide +kernel
theorem dX6_takeFrom_25 : decode cX6_takeFrom 25 = .ok (.aload_n 1, 1) := by decide +kernel
theorem dX6_takeFrom_26 : decode cX6_takeFrom 26 = .ok (.getfield 22, 3) := by decide +kernel
theorem dX6_takeFrom_29 : decode cX6_takeFrom 29 = .ok (.putfield 22, 3) := by decide +kernel
theorem dX6_takeFrom_32 : decode cX6_takeFrom 32 = .ok (.aload_n 0, 1) := by decide +kernel
theorem dX6_takeFrom_33 : decode cX6_takeFrom 33 = .ok (.aload_n 1, 1) := by decide +kernel
theorem dX6_takeFrom_34 : decode cX6_takeFrom 34 = .ok (.getfield 46, 3) := by decide +kernel
theorem dX6_takeFrom_37 : decode cX6_takeFrom 37 = .ok (.putfield 46, 3) := by decide +kernel
theorem dX6_takeFrom_40 : decode cX6_takeFrom 40 = .ok (.aload_n 0, 1) := by decide +kernel
theorem dX6_takeFrom_41 : decode cX6_takeFrom 41 = .ok (.aload_n 1, 1) := by decide +kernel
theorem dX6_takeFrom_42 : decode cX6_takeFrom 42 = .ok (.getfield 25, 3) := by decide +kernel
theorem dX6_takeFrom_45 : decode cX6_takeFrom 45 = .ok (.putfield 25, 3) := by decide +kernel
theorem dX6_takeFrom_48 : decode cX6_takeFrom 48 = .ok (.aload_n 0, 1) := by decide +kernel
theorem dX6_takeFrom_49 : decode cX6_takeFrom 49 = .ok (.aload_n 1, 1) := by decide +kernel
theorem dX6_takeFrom_50 : decode cX6_takeFrom 50 = .ok (.getfield 50, 3) := by decide +kernel
theorem dX6_takeFrom_53 : decode cX6_takeFrom 53 = .ok (.putfield 50, 3) := by decide +kernel
theorem dX6_takeFrom_56 : decode cX6_takeFrom 56 = .ok (.aload_n 0, 1) := by decide +kernel
theorem dX6_takeFrom_57 : decode cX6_takeFrom 57 = .ok (.aload_n 1, 1) := by decide +kernel
theorem dX6_takeFrom_58 : decode cX6_takeFrom 58 = .ok (.getfield 53, 3) := by decide +kernel
theorem dX6_takeFrom_61 : decode cX6_takeFrom 61 = .ok (.putfield 53, 3) := by decide +kernel
theorem dX6_takeFrom_64 : decode cX6_takeFrom 64 = .ok (.aload_n 0, 1) := by decide +kernel
theorem dX6_takeFrom_65 : decode cX6_takeFrom 65 = .ok (.aload_n 1, 1) := by decide +kernel
theorem dX6_takeFrom_66 : decode cX6_takeFrom 66 = .ok (.getfield 56, 3) := by decide +kernel
theorem dX6_takeFrom_69 : decode cX6_takeFrom 69 = .ok (.putfield 56, 3) := by decide +kernel
theorem dX6_takeFrom_72 : decode cX6_takeFrom 72 = .ok (.aload_n 0, 1) := by decide +kernel
theorem dX6_takeFrom_73 : decode cX6_takeFrom 73 = .ok (.aload_n 1, 1) := by decide +kernel
theorem dX6_takeFrom_74 : decode cX6_takeFrom 74 = .ok (.getfield 59, 3) := by decide +kernel
theorem dX6_takeFrom_77 : decode cX6_takeFrom 77 = .ok (.putfield 59, 3) := by decide +kernel
theorem dX6_takeFrom_80 : decode cX6_takeFrom 80 = .ok (.aload_n 0, 1) := by decide +kernel
theorem dX6_takeFrom_81 : decode cX6_takeFrom 81 = .ok (.aload_n 1, 1) := by decide +kernel
theorem dX6_takeFrom_82 : decode cX6_takeFrom 82 = .ok (.getfield 62, 3) := by decide +kernel
theorem dX6_takeFrom_85 : decode cX6_takeFrom 85 = .ok (.putfield 62, 3) := by decide +kernel
theorem dX6_takeFrom_88 : decode cX6_takeFrom 88 = .ok (.aload_n 1, 1) := by decide +kernel
theorem dX6_takeFrom_89 : decode cX6_takeFrom 89 = .ok (.getfield 9, 3) := by decide +kernel
theorem dX6_takeFrom_92 : decode cX6_takeFrom 92 = .ok (.iconst 0, 1) := by decide +kernel
theorem dX6_takeFrom_93 : decode cX6_takeFrom 93 = .ok (.aload_n 0, 1) := by decide +kernel
theorem dX6_takeFrom_94 : decode cX6_takeFrom 94 = .ok (.getfield 9, 3) := by decide +kernel
theorem dX6_takeFrom_97 : decode cX6_takeFrom 97 = .ok (.iconst 0, 1) := by decide +kernel
theorem dX6_takeFrom_98 : decode cX6_takeFrom 98 = .ok (.iconst 5, 1) := by decide +kernel
theorem dX6_takeFrom_99 : decode cX6_takeFrom 99 = .ok (.invokestatic 65, 3) := by decide +kernel
theorem dX6_takeFrom_102 : decode cX6_takeFrom 102 = .ok (.aload_n 1, 1) := by decide +kernel
theorem dX6_takeFrom_103 : decode cX6_takeFrom 103 = .ok (.getfield 15, 3) := by decide +kernel
theorem dX6_takeFrom_106 : decode cX6_takeFrom 106 = .ok (.iconst 0, 1) := by decide +kernel
theorem dX6_takeFrom_107 : decode cX6_takeFrom 107 = .ok (.aload_n 0, 1) := by decide +kernel
theorem dX6_takeFrom_108 : decode cX6_takeFrom 108 = .ok (.getfield 15, 3) := by decide +kernel
theorem dX6_takeFrom_111 : decode cX6_takeFrom 111 = .ok (.iconst 0, 1) := by decide +kernel
theorem dX6_takeFrom_112 : decode cX6_takeFrom 112 = .ok (.iconst 5, 1) := by decide +kernel
theorem dX6_takeFrom_113 : decode cX6_takeFrom 113 = .ok (.invokestatic 65, 3) := by decide +kernel
theorem dX6_takeFrom_116 : decode cX6_takeFrom 116 = .ok (.aload_n 1, 1) := by decide +kernel
theorem dX6_takeFrom_117 : decode cX6_takeFrom 117 = .ok (.getfield 28, 3) := by decide +kernel
theorem dX6_takeFrom_120 : decode cX6_takeFrom 120 = .ok (.iconst 0, 1) := by decide +kernel
theorem dX6_takeFrom_121 : decode cX6_takeFrom 121 = .ok (.aload_n 0, 1) := by decide +kernel
theorem dX6_takeFrom_122 : decode cX6_takeFrom 122 = .ok (.getfield 28, 3) := by decide +kernel
theorem dX6_takeFrom_125 : decode cX6_takeFrom 125 = .ok (.iconst 0, 1) := by decide +kernel
theorem dX6_takeFrom_126 : decode cX6_takeFrom 126 = .ok (.bipush 6, 2) := by decide +kernel
theorem dX6_takeFrom_128 : decode cX6_takeFrom 128 = .ok (.invokestatic 65, 3) := by decide +kernel
theorem dX6_takeFrom_131 : decode cX6_takeFrom 131 = .ok (.aload_n 1, 1) := by decide +kernel
theorem dX6_takeFrom_132 : decode cX6_takeFrom 132 = .ok (.getfield 31, 3) := by decide +kernel
theorem dX6_takeFrom_135 : decode cX6_takeFrom 135 = .ok (.iconst 0, 1) := by decide +kernel
theorem dX6_takeFrom_136 : decode cX6_takeFrom 136 = .ok (.aload_n 0, 1) := by decide +kernel
theorem dX6_takeFrom_137 : decode cX6_takeFrom 137 = .ok (.getfield 31, 3) := by decide +kernel
theorem dX6_takeFrom_140 : decode cX6_takeFrom 140 = .ok (.iconst 0, 1) := by decide +kernel
theorem dX6_takeFrom_141 : decode cX6_takeFrom 141 = .ok (.bipush 6, 2) := by decide +kernel
theorem dX6_takeFrom_143 : decode cX6_takeFrom 143 = .ok (.invokestatic 65, 3) := by decide +kernel
theorem dX6_takeFrom_146 : decode cX6_takeFrom 146 = .ok (.aload_n 1, 1) := by decide +kernel
theorem dX6_takeFrom_147 : decode cX6_takeFrom 147 = .ok (.getfield 34, 3) := by decide +kernel
theorem dX6_takeFrom_150 : decode cX6_takeFrom 150 = .ok (.iconst 0, 1) := by decide +kernel
theorem dX6_takeFrom_151 : decode cX6_takeFrom 151 = .ok (.aload_n 0, 1) := by decide +kernel
theorem dX6_takeFrom_152 : decode cX6_takeFrom 152 = .ok (.getfield 34, 3) := by decide +kernel
theorem dX6_takeFrom_155 : decode cX6_takeFrom 155 = .ok (.iconst 0, 1) := by decide +kernel
theorem dX6_takeFrom_156 : decode cX6_takeFrom 156 = .ok (.bipush 64, 2) := by decide +kernel
theorem dX6_takeFrom_158 : decode cX6_takeFrom 158 = .ok (.invokestatic 65, 3) := by decide +kernel
theorem dX6_takeFrom_161 : decode cX6_takeFrom 161 = .ok (.aload_n 1, 1) := by decide +kernel
theorem dX6_takeFrom_162 : decode cX6_takeFrom 162 = .ok (.getfield 37, 3) := by decide +kernel
theorem dX6_takeFrom_165 : decode cX6_takeFrom 165 = .ok (.iconst 0, 1) := by decide +kernel
theorem dX6_takeFrom_166 : decode cX6_takeFrom 166 = .ok (.aload_n 0, 1) := by decide +kernel
theorem dX6_takeFrom_167 : decode cX6_takeFrom 167 = .ok (.getfield 37, 3) := by decide +kernel
theorem dX6_takeFrom_170 : decode cX6_takeFrom 170 = .ok (.iconst 0, 1) := by decide +kernel
theorem dX6_takeFrom_171 : decode cX6_takeFrom 171 = .ok (.bipush 8, 2) := by decide +kernel
theorem dX6_takeFrom_173 : decode cX6_takeFrom 173 = .ok (.invokestatic 65, 3) := by decide +kernel
theorem dX6_takeFrom_176 : decode cX6_takeFrom 176 = .ok (.return_, 1) := by decide +kernel
theorem dX6_rowIsOrder_0 : decode cX6_rowIsOrder 0 = .ok (.aload_n 0, 1) := by decide +kernel
theorem dX6_rowIsOrder_1 : decode cX6_rowIsOrder 1 = .ok (.getfield 62, 3) := by decide +kernel
theorem dX6_rowIsOrder_4 : decode cX6_rowIsOrder 4 = .ok (.aload_n 0, 1) := by decide +kernel
theorem dX6_rowIsOrder_5 : decode cX6_rowIsOrder 5 = .ok (.getfield 40, 3) := by decide +kernel
theorem dX6_rowIsOrder_8 : decode cX6_rowIsOrder 8 = .ok (.if_icmp .eq 5, 3) := by decide +kernel
theorem dX6_rowIsOrder_13 : decode cX6_rowIsOrder 13 = .ok (.iconst 0, 1) := by decide +kernel
theorem dX6_rowIsOrder_14 : decode cX6_rowIsOrder 14 = .ok (.istore_n 1, 1) := by decide +kernel
theorem dX6_rowIsOrder_15 : decode cX6_rowIsOrder 15 = .ok (.iconst 0, 1) := by decide +kernel
theorem dX6_rowIsOrder_16 : decode cX6_rowIsOrder 16 = .ok (.istore_n 2, 1) := by decide +kernel
theorem dX6_rowIsOrder_17 : decode cX6_rowIsOrder 17 = .ok (.iload_n 2, 1) := by decide +kernel
theorem dX6_rowIsOrder_18 : decode cX6_rowIsOrder 18 = .ok (.aload_n 0, 1) := by decide +kernel
theorem dX6_rowIsOrder_19 : decode cX6_rowIsOrder 19 = .ok (.getfield 62, 3) := by decide +kernel
theorem dX6_rowIsOrder_22 : decode cX6_rowIsOrder 22 = .ok (.if_icmp .ge 55, 3) := by decide +kernel
theorem dX6_rowIsOrder_77 : decode cX6_rowIsOrder 77 = .ok (.iconst 1, 1) := by decide +kernel
theorem dX6_rowIsOrder_78 : decode cX6_rowIsOrder 78 = .ok (.ireturn, 1) := by decide +kernel
theorem dX6_burntPlates_0 : decode cX6_burntPlates 0 = .ok (.iconst 0, 1) := by decide +kernel
theorem dX6_burntPlates_1 : decode cX6_burntPlates 1 = .ok (.istore_n 1, 1) := by decide +kernel
theorem dX6_burntPlates_2 : decode cX6_burntPlates 2 = .ok (.iconst 0, 1) := by decide +kernel
theorem dX6_burntPlates_3 : decode cX6_burntPlates 3 = .ok (.istore_n 2, 1) := by decide +kernel
theorem dX6_burntPlates_4 : decode cX6_burntPlates 4 = .ok (.iload_n 2, 1) := by decide +kernel
theorem dX6_burntPlates_5 : decode cX6_burntPlates 5 = .ok (.aload_n 0, 1) := by decide +kernel
theorem dX6_burntPlates_6 : decode cX6_burntPlates 6 = .ok (.getfield 40, 3) := by decide +kernel
theorem dX6_burntPlates_9 : decode cX6_burntPlates 9 = .ok (.if_icmp .ge 34, 3) := by decide +kernel
theorem dX6_burntPlates_43 : decode cX6_burntPlates 43 = .ok (.iload_n 1, 1) := by decide +kernel
theorem dX6_burntPlates_44 : decode cX6_burntPlates 44 = .ok (.ireturn, 1) := by decide +kernel
theorem dX7_init_0 : decode cX7_init 0 = .ok (.aload_n 0, 1) := by decide +kernel
theorem dX7_init_1 : decode cX7_init 1 = .ok (.invokespecial 3, 3) := by decide +kernel
theorem dX7_init_4 : decode cX7_init 4 = .ok (.aload_n 0, 1) := by decide +kernel
theorem dX7_init_5 : decode cX7_init 5 = .ok (.aload_n 1, 1) := by decide +kernel
theorem dX7_init_6 : decode cX7_init 6 = .ok (.putfield 9, 3) := by decide +kernel
theorem dX7_init_9 : decode cX7_init 9 = .ok (.aload_n 0, 1) := by decide +kernel
theorem dX7_init_10 : decode cX7_init 10 = .ok (.aload_n 2, 1) := by decide +kernel
theorem dX7_init_11 : decode cX7_init 11 = .ok (.putfield 15, 3) := by decide +kernel
theorem dX7_init_14 : decode cX7_init 14 = .ok (.aload_n 0, 1) := by decide +kernel
theorem dX7_init_15 : decode cX7_init 15 = .ok (.aload_n 3, 1) := by decide +kernel
theorem dX7_init_16 : decode cX7_init 16 = .ok (.putfield 19, 3) := by decide +kernel
theorem dX7_init_19 : decode cX7_init 19 = .ok (.return_, 1) := by decide +kernel
theorem dX7_advise_0 : decode cX7_advise 0 = .ok (.aload_n 0, 1) := by decide +kernel
theorem dX7_advise_1 : decode cX7_advise 1 = .ok (.getfield 15, 3) := by decide +kernel
theorem dX7_advise_4 : decode cX7_advise 4 = .ok (.iload_n 2, 1) := by decide +kernel
theorem dX7_advise_5 : decode cX7_advise 5 = .ok (.invokevirtual 23, 3) := by decide +kernel
theorem dX7_advise_8 : decode cX7_advise 8 = .ok (.ifCond .eq 5, 3) := by decide +kernel
theorem dX7_advise_11 : decode cX7_advise 11 = .ok (.iconst (-1), 1) := by decide +kernel
theorem dX7_advise_12 : decode cX7_advise 12 = .ok (.ireturn, 1) := by decide +kernel
theorem dX7_turnsMade_0 : decode cX7_turnsMade 0 = .ok (.iload_n 2, 1) := by decide +kernel
theorem dX7_turnsMade_1 : decode cX7_turnsMade 1 = .ok (.istore_n 3, 1) := by decide +kernel
theorem dX7_turnsMade_2 : decode cX7_turnsMade 2 = .ok (.iconst 0, 1) := by decide +kernel
theorem dX7_turnsMade_3 : decode cX7_turnsMade 3 = .ok (.istore 4, 2) := by decide +kernel
theorem dX7_turnsMade_5 : decode cX7_turnsMade 5 = .ok (.iload 4, 2) := by decide +kernel
theorem dX7_turnsMade_7 : decode cX7_turnsMade 7 = .ok (.bipush 40, 2) := by decide +kernel
theorem dX7_turnsMade_9 : decode cX7_turnsMade 9 = .ok (.if_icmp .gt 49, 3) := by decide +kernel
theorem dX7_turnsMade_12 : decode cX7_turnsMade 12 = .ok (.aload_n 0, 1) := by decide +kernel
theorem dX7_turnsMade_13 : decode cX7_turnsMade 13 = .ok (.getfield 15, 3) := by decide +kernel
theorem dX7_turnsMade_16 : decode cX7_turnsMade 16 = .ok (.iload_n 3, 1) := by decide +kernel
theorem dX7_turnsMade_17 : decode cX7_turnsMade 17 = .ok (.invokevirtual 23, 3) := by decide +kernel
theorem dX7_turnsMade_20 : decode cX7_turnsMade 20 = .ok (.ifCond .eq 6, 3) := by decide +kernel
theorem dX7_turnsMade_23 : decode cX7_turnsMade 23 = .ok (.iload 4, 2) := by decide +kernel
theorem dX7_turnsMade_25 : decode cX7_turnsMade 25 = .ok (.ireturn, 1) := by decide +kernel
theorem dX8_init_0 : decode cX8_init 0 = .ok (.aload_n 0, 1) := by decide +kernel
theorem dX8_init_1 : decode cX8_init 1 = .ok (.invokespecial 3, 3) := by decide +kernel
theorem dX8_init_4 : decode cX8_init 4 = .ok (.aload_n 0, 1) := by decide +kernel
theorem dX8_init_5 : decode cX8_init 5 = .ok (.aload_n 1, 1) := by decide +kernel
theorem dX8_init_6 : decode cX8_init 6 = .ok (.putfield 9, 3) := by decide +kernel
theorem dX8_init_9 : decode cX8_init 9 = .ok (.aload_n 0, 1) := by decide +kernel
theorem dX8_init_10 : decode cX8_init 10 = .ok (.aload_n 2, 1) := by decide +kernel
theorem dX8_init_11 : decode cX8_init 11 = .ok (.putfield 15, 3) := by decide +kernel
theorem dX8_init_14 : decode cX8_init 14 = .ok (.aload_n 0, 1) := by decide +kernel
theorem dX8_init_15 : decode cX8_init 15 = .ok (.aload_n 3, 1) := by decide +kernel
theorem dX8_init_16 : decode cX8_init 16 = .ok (.putfield 19, 3) := by decide +kernel
theorem dX8_init_19 : decode cX8_init 19 = .ok (.aload_n 0, 1) := by decide +kernel
theorem dX8_init_20 : decode cX8_init 20 = .ok (.aload 4, 2) := by decide +kernel
theorem dX8_init_22 : decode cX8_init 22 = .ok (.getfield 23, 3) := by decide +kernel
theorem dX8_init_25 : decode cX8_init 25 = .ok (.putfield 29, 3) := by decide +kernel
theorem dX8_init_28 : decode cX8_init 28 = .ok (.aload_n 0, 1) := by decide +kernel
theorem dX8_init_29 : decode cX8_init 29 = .ok (.aload 4, 2) := by decide +kernel
theorem dX8_init_31 : decode cX8_init 31 = .ok (.getfield 30, 3) := by decide +kernel
theorem dX8_init_34 : decode cX8_init 34 = .ok (.putfield 33, 3) := by decide +kernel
theorem dX8_init_37 : decode cX8_init 37 = .ok (.aload_n 0, 1) := by decide +kernel
theorem dX8_init_38 : decode cX8_init 38 = .ok (.aload 4, 2) := by decide +kernel
theorem dX8_init_40 : decode cX8_init 40 = .ok (.getfield 34, 3) := by decide +kernel
theorem dX8_init_43 : decode cX8_init 43 = .ok (.putfield 37, 3) := by decide +kernel
theorem dX8_init_46 : decode cX8_init 46 = .ok (.return_, 1) := by decide +kernel
theorem dX8_turnsBetween_0 : decode cX8_turnsBetween 0 = .ok (.aload_n 0, 1) := by decide +kernel
theorem dX8_turnsBetween_1 : decode cX8_turnsBetween 1 = .ok (.iconst (-1), 1) := by decide +kernel
theorem dX8_turnsBetween_2 : decode cX8_turnsBetween 2 = .ok (.invokevirtual 38, 3) := by decide +kernel
theorem dX8_turnsBetween_5 : decode cX8_turnsBetween 5 = .ok (.aload_n 0, 1) := by decide +kernel
theorem dX8_turnsBetween_6 : decode cX8_turnsBetween 6 = .ok (.getfield 33, 3) := by decide +kernel
theorem dX8_turnsBetween_9 : decode cX8_turnsBetween 9 = .ok (.iload_n 1, 1) := by decide +kernel
theorem dX8_turnsBetween_10 : decode cX8_turnsBetween 10 = .ok (.iconst 0, 1) := by decide +kernel
theorem dX8_turnsBetween_11 : decode cX8_turnsBetween 11 = .ok (.iastore, 1) := by decide +kernel
theorem dX8_turnsBetween_12 : decode cX8_turnsBetween 12 = .ok (.aload_n 0, 1) := by decide +kernel
theorem dX8_turnsBetween_13 : decode cX8_turnsBetween 13 = .ok (.getfield 37, 3) := by decide +kernel
theorem dX8_turnsBetween_16 : decode cX8_turnsBetween 16 = .ok (.iload_n 1, 1) := by decide +kernel
theorem dX8_turnsBetween_17 : decode cX8_turnsBetween 17 = .ok (.iconst 1, 1) := by decide +kernel
theorem dX8_turnsBetween_18 : decode cX8_turnsBetween 18 = .ok (.iastore, 1) := by decide +kernel
theorem dX8_turnsBetween_19 : decode cX8_turnsBetween 19 = .ok (.aload_n 0, 1) := by decide +kernel
theorem dX8_turnsBetween_20 : decode cX8_turnsBetween 20 = .ok (.getfield 29, 3) := by decide +kernel
theorem dX8_turnsBetween_23 : decode cX8_turnsBetween 23 = .ok (.iconst 0, 1) := by decide +kernel
theorem dX8_turnsBetween_24 : decode cX8_turnsBetween 24 = .ok (.iload_n 1, 1) := by decide +kernel
theorem dX8_turnsBetween_25 : decode cX8_turnsBetween 25 = .ok (.iastore, 1) := by decide +kernel
theorem dX8_turnsBetween_26 : decode cX8_turnsBetween 26 = .ok (.aload_n 0, 1) := by decide +kernel
theorem dX8_turnsBetween_27 : decode cX8_turnsBetween 27 = .ok (.getfield 19, 3) := by decide +kernel
theorem dX8_turnsBetween_30 : decode cX8_turnsBetween 30 = .ok (.aload_n 0, 1) := by decide +kernel
theorem dX8_turnsBetween_31 : decode cX8_turnsBetween 31 = .ok (.getfield 33, 3) := by decide +kernel
theorem dX8_turnsBetween_34 : decode cX8_turnsBetween 34 = .ok (.aload_n 0, 1) := by decide +kernel
theorem dX8_turnsBetween_35 : decode cX8_turnsBetween 35 = .ok (.getfield 37, 3) := by decide +kernel
theorem dX8_turnsBetween_38 : decode cX8_turnsBetween 38 = .ok (.iconst 1, 1) := by decide +kernel
theorem dX8_turnsBetween_39 : decode cX8_turnsBetween 39 = .ok (.invokevirtual 42, 3) := by decide +kernel
theorem dX8_turnsBetween_42 : decode cX8_turnsBetween 42 = .ok (.aload_n 0, 1) := by decide +kernel
theorem dX8_turnsBetween_43 : decode cX8_turnsBetween 43 = .ok (.getfield 33, 3) := by decide +kernel
theorem dX8_turnsBetween_46 : decode cX8_turnsBetween 46 = .ok (.iload_n 2, 1) := by decide +kernel
theorem dX8_turnsBetween_47 : decode cX8_turnsBetween 47 = .ok (.iaload, 1) := by decide +kernel
theorem dX8_turnsBetween_48 : decode cX8_turnsBetween 48 = .ok (.ireturn, 1) := by decide +kernel
theorem dX8_fillFirst_0 : decode cX8_fillFirst 0 = .ok (.iconst 0, 1) := by decide +kernel
theorem dX8_fillFirst_1 : decode cX8_fillFirst 1 = .ok (.istore_n 2, 1) := by decide +kernel
theorem dX8_fillFirst_2 : decode cX8_fillFirst 2 = .ok (.iload_n 2, 1) := by decide +kernel
theorem dX8_fillFirst_3 : decode cX8_fillFirst 3 = .ok (.aload_n 0, 1) := by decide +kernel
theorem dX8_fillFirst_4 : decode cX8_fillFirst 4 = .ok (.getfield 9, 3) := by decide +kernel
theorem dX8_fillFirst_7 : decode cX8_fillFirst 7 = .ok (.getfield 48, 3) := by decide +kernel
theorem dX8_fillFirst_10 : decode cX8_fillFirst 10 = .ok (.if_icmp .ge 16, 3) := by decide +kernel
theorem dX8_fillFirst_13 : decode cX8_fillFirst 13 = .ok (.aload_n 0, 1) := by decide +kernel
theorem dX8_fillFirst_14 : decode cX8_fillFirst 14 = .ok (.getfield 33, 3) := by decide +kernel
theorem dX8_fillFirst_17 : decode cX8_fillFirst 17 = .ok (.iload_n 2, 1) := by decide +kernel
theorem dX8_fillFirst_18 : decode cX8_fillFirst 18 = .ok (.iload_n 1, 1) := by decide +kernel
theorem dX8_fillFirst_19 : decode cX8_fillFirst 19 = .ok (.iastore, 1) := by decide +kernel
theorem dX8_fillFirst_20 : decode cX8_fillFirst 20 = .ok (.iinc 2 1, 3) := by decide +kernel
theorem dX8_fillFirst_23 : decode cX8_fillFirst 23 = .ok (.goto (-21), 3) := by decide +kernel
theorem dX8_fillFirst_26 : decode cX8_fillFirst 26 = .ok (.return_, 1) := by decide +kernel
theorem dX8_howManyBehind_0 : decode cX8_howManyBehind 0 = .ok (.aload_n 0, 1) := by decide +kernel
theorem dX8_howManyBehind_1 : decode cX8_howManyBehind 1 = .ok (.iconst 0, 1) := by decide +kernel
theorem dX8_howManyBehind_2 : decode cX8_howManyBehind 2 = .ok (.invokevirtual 38, 3) := by decide +kernel
theorem dX8_howManyBehind_5 : decode cX8_howManyBehind 5 = .ok (.aload_n 0, 1) := by decide +kernel
theorem dX8_howManyBehind_6 : decode cX8_howManyBehind 6 = .ok (.getfield 33, 3) := by decide +kernel
theorem dX8_howManyBehind_9 : decode cX8_howManyBehind 9 = .ok (.iload_n 1, 1) := by decide +kernel
theorem dX8_howManyBehind_10 : decode cX8_howManyBehind 10 = .ok (.iconst 1, 1) := by decide +kernel
theorem dX8_howManyBehind_11 : decode cX8_howManyBehind 11 = .ok (.iastore, 1) := by decide +kernel
theorem dX8_howManyBehind_12 : decode cX8_howManyBehind 12 = .ok (.iconst 1, 1) := by decide +kernel
theorem dX8_howManyBehind_13 : decode cX8_howManyBehind 13 = .ok (.istore_n 3, 1) := by decide +kernel
theorem dX8_howManyBehind_14 : decode cX8_howManyBehind 14 = .ok (.iload_n 3, 1) := by decide +kernel
theorem dX8_howManyBehind_15 : decode cX8_howManyBehind 15 = .ok (.iload_n 2, 1) := by decide +kernel
theorem dX8_howManyBehind_16 : decode cX8_howManyBehind 16 = .ok (.if_icmp .gt 56, 3) := by decide +kernel
theorem dX8_howManyBehind_19 : decode cX8_howManyBehind 19 = .ok (.iconst 0, 1) := by decide +kernel
theorem dX8_howManyBehind_20 : decode cX8_howManyBehind 20 = .ok (.istore 4, 2) := by decide +kernel
theorem dX8_howManyBehind_22 : decode cX8_howManyBehind 22 = .ok (.iload 4, 2) := by decide +kernel
theorem dX8_howManyBehind_24 : decode cX8_howManyBehind 24 = .ok (.aload_n 0, 1) := by decide +kernel
theorem dX8_howManyBehind_25 : decode cX8_howManyBehind 25 = .ok (.getfield 9, 3) := by decide +kernel
theorem dX8_howManyBehind_28 : decode cX8_howManyBehind 28 = .ok (.getfield 48, 3) := by decide +kernel
theorem dX8_howManyBehind_31 : decode cX8_howManyBehind 31 = .ok (.if_icmp .ge 35, 3) := by decide +kernel
theorem dX8_howManyBehind_34 : decode cX8_howManyBehind 34 = .ok (.aload_n 0, 1) := by decide +kernel
theorem dX8_howManyBehind_35 : decode cX8_howManyBehind 35 = .ok (.getfield 33, 3) := by decide +kernel
theorem dX8_howManyBehind_38 : decode cX8_howManyBehind 38 = .ok (.iload 4, 2) := by decide +kernel
theorem dX8_howManyBehind_40 : decode cX8_howManyBehind 40 = .ok (.iaload, 1) := by decide +kernel
theorem dX8_howManyBehind_41 : decode cX8_howManyBehind 41 = .ok (.iload_n 3, 1) := by decide +kernel
theorem dX8_howManyBehind_42 : decode cX8_howManyBehind 42 = .ok (.iconst 1, 1) := by decide +kernel
theorem dX8_howManyBehind_43 : decode cX8_howManyBehind 43 = .ok (.isub, 1) := by decide +kernel
theorem dX8_howManyBehind_44 : decode cX8_howManyBehind 44 = .ok (.ishr, 1) := by decide +kernel
theorem dX8_howManyBehind_45 : decode cX8_howManyBehind 45 = .ok (.iconst 1, 1) := by decide +kernel
theorem dX8_howManyBehind_46 : decode cX8_howManyBehind 46 = .ok (.iand, 1) := by decide +kernel
theorem dX8_howManyBehind_47 : decode cX8_howManyBehind 47 = .ok (.iconst 1, 1) := by decide +kernel
theorem dX8_howManyBehind_48 : decode cX8_howManyBehind 48 = .ok (.if_icmp .ne 12, 3) := by decide +kernel
theorem dX8_howManyBehind_51 : decode cX8_howManyBehind 51 = .ok (.aload_n 0, 1) := by decide +kernel
theorem dX8_howManyBehind_52 : decode cX8_howManyBehind 52 = .ok (.iload 4, 2) := by decide +kernel
theorem dX8_howManyBehind_54 : decode cX8_howManyBehind 54 = .ok (.iconst 1, 1) := by decide +kernel
theorem dX8_howManyBehind_55 : decode cX8_howManyBehind 55 = .ok (.iload_n 3, 1) := by decide +kernel
theorem dX8_howManyBehind_56 : decode cX8_howManyBehind 56 = .ok (.ishl, 1) := by decide +kernel
theorem dX8_howManyBehind_57 : decode cX8_howManyBehind 57 = .ok (.invokevirtual 54, 3) := by decide +kernel
theorem dX8_howManyBehind_60 : decode cX8_howManyBehind 60 = .ok (.iinc 4 1, 3) := by decide +kernel
theorem dX8_howManyBehind_63 : decode cX8_howManyBehind 63 = .ok (.goto (-41), 3) := by decide +kernel
theorem dX8_howManyBehind_66 : decode cX8_howManyBehind 66 = .ok (.iinc 3 1, 3) := by decide +kernel
theorem dX8_howManyBehind_69 : decode cX8_howManyBehind 69 = .ok (.goto (-55), 3) := by decide +kernel
theorem dX8_howManyBehind_72 : decode cX8_howManyBehind 72 = .ok (.iconst 0, 1) := by decide +kernel
theorem dX8_howManyBehind_73 : decode cX8_howManyBehind 73 = .ok (.istore_n 3, 1) := by decide +kernel
theorem dX8_howManyBehind_74 : decode cX8_howManyBehind 74 = .ok (.iconst 0, 1) := by decide +kernel
theorem dX8_howManyBehind_75 : decode cX8_howManyBehind 75 = .ok (.istore 4, 2) := by decide +kernel
theorem dX8_howManyBehind_77 : decode cX8_howManyBehind 77 = .ok (.iload 4, 2) := by decide +kernel
theorem dX8_howManyBehind_79 : decode cX8_howManyBehind 79 = .ok (.aload_n 0, 1) := by decide +kernel
theorem dX8_howManyBehind_80 : decode cX8_howManyBehind 80 = .ok (.getfield 9, 3) := by decide +kernel
theorem dX8_howManyBehind_83 : decode cX8_howManyBehind 83 = .ok (.getfield 48, 3) := by decide +kernel
theorem dX8_howManyBehind_86 : decode cX8_howManyBehind 86 = .ok (.if_icmp .ge 23, 3) := by decide +kernel
theorem dX8_howManyBehind_89 : decode cX8_howManyBehind 89 = .ok (.iload_n 3, 1) := by decide +kernel
theorem dX8_howManyBehind_90 : decode cX8_howManyBehind 90 = .ok (.aload_n 0, 1) := by decide +kernel
theorem dX8_howManyBehind_91 : decode cX8_howManyBehind 91 = .ok (.getfield 33, 3) := by decide +kernel
theorem dX8_howManyBehind_94 : decode cX8_howManyBehind 94 = .ok (.iload 4, 2) := by decide +kernel
theorem dX8_howManyBehind_96 : decode cX8_howManyBehind 96 = .ok (.iaload, 1) := by decide +kernel
theorem dX8_howManyBehind_97 : decode cX8_howManyBehind 97 = .ok (.iload_n 2, 1) := by decide +kernel
theorem dX8_howManyBehind_98 : decode cX8_howManyBehind 98 = .ok (.ishr, 1) := by decide +kernel
theorem dX8_howManyBehind_99 : decode cX8_howManyBehind 99 = .ok (.iconst 1, 1) := by decide +kernel
theorem dX8_howManyBehind_100 : decode cX8_howManyBehind 100 = .ok (.iand, 1) := by decide +kernel
theorem dX8_howManyBehind_101 : decode cX8_howManyBehind 101 = .ok (.iadd, 1) := by decide +kernel
theorem dX8_howManyBehind_102 : decode cX8_howManyBehind 102 = .ok (.istore_n 3, 1) := by decide +kernel
theorem dX8_howManyBehind_103 : decode cX8_howManyBehind 103 = .ok (.iinc 4 1, 3) := by decide +kernel
theorem dX8_howManyBehind_106 : decode cX8_howManyBehind 106 = .ok (.goto (-29), 3) := by decide +kernel
theorem dX8_howManyBehind_109 : decode cX8_howManyBehind 109 = .ok (.iload_n 3, 1) := by decide +kernel
theorem dX8_howManyBehind_110 : decode cX8_howManyBehind 110 = .ok (.ireturn, 1) := by decide +kernel
theorem dX8_markBehind_0 : decode cX8_markBehind 0 = .ok (.aload_n 0, 1) := by decide +kernel
theorem dX8_markBehind_1 : decode cX8_markBehind 1 = .ok (.getfield 9, 3) := by decide +kernel
theorem dX8_markBehind_4 : decode cX8_markBehind 4 = .ok (.iload_n 1, 1) := by decide +kernel
theorem dX8_markBehind_5 : decode cX8_markBehind 5 = .ok (.invokevirtual 58, 3) := by decide +kernel
theorem dX8_markBehind_8 : decode cX8_markBehind 8 = .ok (.istore_n 3, 1) := by decide +kernel
theorem dX8_markBehind_9 : decode cX8_markBehind 9 = .ok (.iconst 0, 1) := by decide +kernel
theorem dX8_markBehind_10 : decode cX8_markBehind 10 = .ok (.istore 4, 2) := by decide +kernel
theorem dX8_markBehind_12 : decode cX8_markBehind 12 = .ok (.iload 4, 2) := by decide +kernel
theorem dX8_markBehind_14 : decode cX8_markBehind 14 = .ok (.aload_n 0, 1) := by decide +kernel
theorem dX8_markBehind_15 : decode cX8_markBehind 15 = .ok (.getfield 9, 3) := by decide +kernel
theorem dX8_markBehind_18 : decode cX8_markBehind 18 = .ok (.getfield 62, 3) := by decide +kernel
theorem dX8_markBehind_21 : decode cX8_markBehind 21 = .ok (.if_icmp .ge 41, 3) := by decide +kernel
theorem dX8_markBehind_62 : decode cX8_markBehind 62 = .ok (.return_, 1) := by decide +kernel
theorem dX8_shuffle_0 : decode cX8_shuffle 0 = .ok (.iload_n 1, 1) := by decide +kernel
theorem dX8_shuffle_1 : decode cX8_shuffle 1 = .ok (.istore 4, 2) := by decide +kernel
theorem dX8_shuffle_3 : decode cX8_shuffle 3 = .ok (.iload_n 3, 1) := by decide +kernel
theorem dX8_shuffle_4 : decode cX8_shuffle 4 = .ok (.istore 5, 2) := by decide +kernel
theorem dX8_shuffle_6 : decode cX8_shuffle 6 = .ok (.iconst 0, 1) := by decide +kernel
theorem dX8_shuffle_7 : decode cX8_shuffle 7 = .ok (.istore 6, 2) := by decide +kernel
theorem dX8_shuffle_9 : decode cX8_shuffle 9 = .ok (.iload 6, 2) := by decide +kernel
theorem dX8_shuffle_11 : decode cX8_shuffle 11 = .ok (.iload_n 2, 1) := by decide +kernel
theorem dX8_shuffle_12 : decode cX8_shuffle 12 = .ok (.if_icmp .ge 90, 3) := by decide +kernel
theorem dX8_shuffle_15 : decode cX8_shuffle 15 = .ok (.aload_n 0, 1) := by decide +kernel
theorem dX8_shuffle_16 : decode cX8_shuffle 16 = .ok (.getfield 9, 3) := by decide +kernel
theorem dX8_shuffle_19 : decode cX8_shuffle 19 = .ok (.iload 4, 2) := by decide +kernel
theorem dX8_shuffle_21 : decode cX8_shuffle 21 = .ok (.invokevirtual 58, 3) := by decide +kernel
theorem dX8_shuffle_24 : decode cX8_shuffle 24 = .ok (.istore 7, 2) := by decide +kernel
theorem dX8_shuffle_26 : decode cX8_shuffle 26 = .ok (.aload_n 0, 1) := by decide +kernel
theorem dX8_shuffle_27 : decode cX8_shuffle 27 = .ok (.getfield 15, 3) := by decide +kernel
theorem dX8_shuffle_30 : decode cX8_shuffle 30 = .ok (.iload 7, 2) := by decide +kernel
theorem dX8_shuffle_32 : decode cX8_shuffle 32 = .ok (.invokevirtual 75, 3) := by decide +kernel
theorem dX8_shuffle_35 : decode cX8_shuffle 35 = .ok (.istore 8, 2) := by decide +kernel
theorem dX8_shuffle_37 : decode cX8_shuffle 37 = .ok (.iload 8, 2) := by decide +kernel
theorem dX8_shuffle_39 : decode cX8_shuffle 39 = .ok (.ifCond .gt 6, 3) := by decide +kernel
theorem dX8_shuffle_42 : decode cX8_shuffle 42 = .ok (.iload 4, 2) := by decide +kernel
theorem dX8_shuffle_44 : decode cX8_shuffle 44 = .ok (.ireturn, 1) := by decide +kernel
theorem dX8_shuffle_102 : decode cX8_shuffle 102 = .ok (.iload 4, 2) := by decide +kernel
theorem dX8_shuffle_104 : decode cX8_shuffle 104 = .ok (.ireturn, 1) := by decide +kernel
theorem dX8_matchFrom_0 : decode cX8_matchFrom 0 = .ok (.aload_n 0, 1) := by decide +kernel
theorem dX8_matchFrom_1 : decode cX8_matchFrom 1 = .ok (.invokevirtual 84, 3) := by decide +kernel
theorem dX8_matchFrom_4 : decode cX8_matchFrom 4 = .ok (.istore_n 2, 1) := by decide +kernel
theorem dX8_matchFrom_5 : decode cX8_matchFrom 5 = .ok (.iconst 0, 1) := by decide +kernel
theorem dX8_matchFrom_6 : decode cX8_matchFrom 6 = .ok (.istore_n 3, 1) := by decide +kernel
theorem dX8_matchFrom_7 : decode cX8_matchFrom 7 = .ok (.iload_n 3, 1) := by decide +kernel
theorem dX8_matchFrom_8 : decode cX8_matchFrom 8 = .ok (.iload_n 2, 1) := by decide +kernel
theorem dX8_matchFrom_9 : decode cX8_matchFrom 9 = .ok (.if_icmp .ge 126, 3) := by decide +kernel
theorem dX8_matchFrom_12 : decode cX8_matchFrom 12 = .ok (.iload_n 3, 1) := by decide +kernel
theorem dX8_matchFrom_13 : decode cX8_matchFrom 13 = .ok (.sipush 3840, 3) := by decide +kernel
theorem dX8_matchFrom_16 : decode cX8_matchFrom 16 = .ok (.if_icmp .ge 119, 3) := by decide +kernel
theorem dX8_matchFrom_19 : decode cX8_matchFrom 19 = .ok (.aload_n 0, 1) := by decide +kernel
theorem dX8_matchFrom_20 : decode cX8_matchFrom 20 = .ok (.getfield 29, 3) := by decide +kernel
theorem dX8_matchFrom_23 : decode cX8_matchFrom 23 = .ok (.iload_n 3, 1) := by decide +kernel
theorem dX8_matchFrom_24 : decode cX8_matchFrom 24 = .ok (.iaload, 1) := by decide +kernel
theorem dX8_matchFrom_25 : decode cX8_matchFrom 25 = .ok (.istore 4, 2) := by decide +kernel
theorem dX8_matchFrom_27 : decode cX8_matchFrom 27 = .ok (.aload_n 0, 1) := by decide +kernel
theorem dX8_matchFrom_28 : decode cX8_matchFrom 28 = .ok (.getfield 9, 3) := by decide +kernel
theorem dX8_matchFrom_31 : decode cX8_matchFrom 31 = .ok (.iload 4, 2) := by decide +kernel
theorem dX8_matchFrom_33 : decode cX8_matchFrom 33 = .ok (.invokevirtual 58, 3) := by decide +kernel
theorem dX8_matchFrom_36 : decode cX8_matchFrom 36 = .ok (.istore 5, 2) := by decide +kernel
theorem dX8_matchFrom_38 : decode cX8_matchFrom 38 = .ok (.iconst 0, 1) := by decide +kernel
theorem dX8_matchFrom_39 : decode cX8_matchFrom 39 = .ok (.istore 6, 2) := by decide +kernel
theorem dX8_matchFrom_41 : decode cX8_matchFrom 41 = .ok (.iload 6, 2) := by decide +kernel
theorem dX8_matchFrom_43 : decode cX8_matchFrom 43 = .ok (.aload_n 0, 1) := by decide +kernel
theorem dX8_matchFrom_44 : decode cX8_matchFrom 44 = .ok (.getfield 9, 3) := by decide +kernel
theorem dX8_matchFrom_47 : decode cX8_matchFrom 47 = .ok (.getfield 62, 3) := by decide +kernel
theorem dX8_matchFrom_50 : decode cX8_matchFrom 50 = .ok (.if_icmp .ge 79, 3) := by decide +kernel
theorem dX8_matchFrom_129 : decode cX8_matchFrom 129 = .ok (.iinc 3 1, 3) := by decide +kernel
theorem dX8_matchFrom_132 : decode cX8_matchFrom 132 = .ok (.goto (-125), 3) := by decide +kernel
theorem dX8_matchFrom_135 : decode cX8_matchFrom 135 = .ok (.aload_n 0, 1) := by decide +kernel
theorem dX8_matchFrom_136 : decode cX8_matchFrom 136 = .ok (.getfield 33, 3) := by decide +kernel
theorem dX8_matchFrom_139 : decode cX8_matchFrom 139 = .ok (.iload_n 1, 1) := by decide +kernel
theorem dX8_matchFrom_140 : decode cX8_matchFrom 140 = .ok (.iaload, 1) := by decide +kernel
theorem dX8_matchFrom_141 : decode cX8_matchFrom 141 = .ok (.ireturn, 1) := by decide +kernel
theorem dX8_seedMatch_0 : decode cX8_seedMatch 0 = .ok (.iconst 0, 1) := by decide +kernel
theorem dX8_seedMatch_1 : decode cX8_seedMatch 1 = .ok (.istore_n 1, 1) := by decide +kernel
theorem dX8_seedMatch_2 : decode cX8_seedMatch 2 = .ok (.iconst 0, 1) := by decide +kernel
theorem dX8_seedMatch_3 : decode cX8_seedMatch 3 = .ok (.istore_n 2, 1) := by decide +kernel
theorem dX8_seedMatch_4 : decode cX8_seedMatch 4 = .ok (.iload_n 2, 1) := by decide +kernel
theorem dX8_seedMatch_5 : decode cX8_seedMatch 5 = .ok (.aload_n 0, 1) := by decide +kernel
theorem dX8_seedMatch_6 : decode cX8_seedMatch 6 = .ok (.getfield 9, 3) := by decide +kernel
theorem dX8_seedMatch_9 : decode cX8_seedMatch 9 = .ok (.getfield 48, 3) := by decide +kernel
theorem dX8_seedMatch_12 : decode cX8_seedMatch 12 = .ok (.if_icmp .ge 74, 3) := by decide +kernel
theorem dX8_seedMatch_15 : decode cX8_seedMatch 15 = .ok (.aload_n 0, 1) := by decide +kernel
theorem dX8_seedMatch_16 : decode cX8_seedMatch 16 = .ok (.getfield 37, 3) := by decide +kernel
theorem dX8_seedMatch_19 : decode cX8_seedMatch 19 = .ok (.iload_n 2, 1) := by decide +kernel
theorem dX8_seedMatch_20 : decode cX8_seedMatch 20 = .ok (.aload_n 0, 1) := by decide +kernel
theorem dX8_seedMatch_21 : decode cX8_seedMatch 21 = .ok (.getfield 15, 3) := by decide +kernel
theorem dX8_seedMatch_24 : decode cX8_seedMatch 24 = .ok (.aload_n 0, 1) := by decide +kernel
theorem dX8_seedMatch_25 : decode cX8_seedMatch 25 = .ok (.getfield 9, 3) := by decide +kernel
theorem dX8_seedMatch_28 : decode cX8_seedMatch 28 = .ok (.iload_n 2, 1) := by decide +kernel
theorem dX8_seedMatch_29 : decode cX8_seedMatch 29 = .ok (.invokevirtual 58, 3) := by decide +kernel
theorem dX8_seedMatch_32 : decode cX8_seedMatch 32 = .ok (.invokevirtual 75, 3) := by decide +kernel
theorem dX8_seedMatch_35 : decode cX8_seedMatch 35 = .ok (.iastore, 1) := by decide +kernel
theorem dX8_seedMatch_36 : decode cX8_seedMatch 36 = .ok (.aload_n 0, 1) := by decide +kernel
theorem dX8_seedMatch_37 : decode cX8_seedMatch 37 = .ok (.getfield 33, 3) := by decide +kernel
theorem dX8_seedMatch_40 : decode cX8_seedMatch 40 = .ok (.iload_n 2, 1) := by decide +kernel
theorem dX8_seedMatch_41 : decode cX8_seedMatch 41 = .ok (.iconst 2, 1) := by decide +kernel
theorem dX8_seedMatch_42 : decode cX8_seedMatch 42 = .ok (.iastore, 1) := by decide +kernel
theorem dX8_seedMatch_43 : decode cX8_seedMatch 43 = .ok (.aload_n 0, 1) := by decide +kernel
theorem dX8_seedMatch_44 : decode cX8_seedMatch 44 = .ok (.getfield 37, 3) := by decide +kernel
theorem dX8_seedMatch_47 : decode cX8_seedMatch 47 = .ok (.iload_n 2, 1) := by decide +kernel
theorem dX8_seedMatch_48 : decode cX8_seedMatch 48 = .ok (.iaload, 1) := by decide +kernel
theorem dX8_seedMatch_49 : decode cX8_seedMatch 49 = .ok (.ifCond .eq 14, 3) := by decide +kernel
theorem dX8_seedMatch_63 : decode cX8_seedMatch 63 = .ok (.aload_n 0, 1) := by decide +kernel
theorem dX8_seedMatch_64 : decode cX8_seedMatch 64 = .ok (.getfield 33, 3) := by decide +kernel
theorem dX8_seedMatch_67 : decode cX8_seedMatch 67 = .ok (.iload_n 2, 1) := by decide +kernel
theorem dX8_seedMatch_68 : decode cX8_seedMatch 68 = .ok (.iconst 0, 1) := by decide +kernel
theorem dX8_seedMatch_69 : decode cX8_seedMatch 69 = .ok (.iastore, 1) := by decide +kernel
theorem dX8_seedMatch_70 : decode cX8_seedMatch 70 = .ok (.aload_n 0, 1) := by decide +kernel
theorem dX8_seedMatch_71 : decode cX8_seedMatch 71 = .ok (.getfield 29, 3) := by decide +kernel
theorem dX8_seedMatch_74 : decode cX8_seedMatch 74 = .ok (.iload_n 1, 1) := by decide +kernel
theorem dX8_seedMatch_75 : decode cX8_seedMatch 75 = .ok (.iload_n 2, 1) := by decide +kernel
theorem dX8_seedMatch_76 : decode cX8_seedMatch 76 = .ok (.iastore, 1) := by decide +kernel
theorem dX8_seedMatch_77 : decode cX8_seedMatch 77 = .ok (.iinc 1 1, 3) := by decide +kernel
theorem dX8_seedMatch_80 : decode cX8_seedMatch 80 = .ok (.iinc 2 1, 3) := by decide +kernel
theorem dX8_seedMatch_83 : decode cX8_seedMatch 83 = .ok (.goto (-79), 3) := by decide +kernel
theorem dX8_seedMatch_86 : decode cX8_seedMatch 86 = .ok (.iload_n 1, 1) := by decide +kernel
theorem dX8_seedMatch_87 : decode cX8_seedMatch 87 = .ok (.ireturn, 1) := by decide +kernel
theorem dX9_init_0 : decode cX9_init 0 = .ok (.aload_n 0, 1) := by decide +kernel
theorem dX9_init_1 : decode cX9_init 1 = .ok (.invokespecial 1, 3) := by decide +kernel
theorem dX9_init_4 : decode cX9_init 4 = .ok (.aload_n 0, 1) := by decide +kernel
theorem dX9_init_5 : decode cX9_init 5 = .ok (.new 7, 3) := by decide +kernel
theorem dX9_init_8 : decode cX9_init 8 = .ok (.dup, 1) := by decide +kernel
theorem dX9_init_9 : decode cX9_init 9 = .ok (.invokespecial 9, 3) := by decide +kernel
theorem dX9_init_12 : decode cX9_init 12 = .ok (.putfield 10, 3) := by decide +kernel
theorem dX9_init_15 : decode cX9_init 15 = .ok (.aload_n 0, 1) := by decide +kernel
theorem dX9_init_16 : decode cX9_init 16 = .ok (.new 7, 3) := by decide +kernel
theorem dX9_init_19 : decode cX9_init 19 = .ok (.dup, 1) := by decide +kernel
theorem dX9_init_20 : decode cX9_init 20 = .ok (.invokespecial 9, 3) := by decide +kernel
theorem dX9_init_23 : decode cX9_init 23 = .ok (.putfield 16, 3) := by decide +kernel
theorem dX9_init_26 : decode cX9_init 26 = .ok (.aload_n 0, 1) := by decide +kernel
theorem dX9_init_27 : decode cX9_init 27 = .ok (.new 7, 3) := by decide +kernel
theorem dX9_init_30 : decode cX9_init 30 = .ok (.dup, 1) := by decide +kernel
theorem dX9_init_31 : decode cX9_init 31 = .ok (.invokespecial 9, 3) := by decide +kernel
theorem dX9_init_34 : decode cX9_init 34 = .ok (.putfield 19, 3) := by decide +kernel
theorem dX9_init_37 : decode cX9_init 37 = .ok (.aload_n 0, 1) := by decide +kernel
theorem dX9_init_38 : decode cX9_init 38 = .ok (.iconst 0, 1) := by decide +kernel
theorem dX9_init_39 : decode cX9_init 39 = .ok (.putfield 22, 3) := by decide +kernel
theorem dX9_init_42 : decode cX9_init 42 = .ok (.aload_n 0, 1) := by decide +kernel
theorem dX9_init_43 : decode cX9_init 43 = .ok (.new 26, 3) := by decide +kernel
theorem dX9_init_46 : decode cX9_init 46 = .ok (.dup, 1) := by decide +kernel
theorem dX9_init_47 : decode cX9_init 47 = .ok (.aload_n 0, 1) := by decide +kernel
theorem dX9_init_48 : decode cX9_init 48 = .ok (.getfield 16, 3) := by decide +kernel
theorem dX9_init_51 : decode cX9_init 51 = .ok (.invokespecial 28, 3) := by decide +kernel
theorem dX9_init_54 : decode cX9_init 54 = .ok (.putfield 31, 3) := by decide +kernel
theorem dX9_init_57 : decode cX9_init 57 = .ok (.aload_n 0, 1) := by decide +kernel
theorem dX9_init_58 : decode cX9_init 58 = .ok (.new 35, 3) := by decide +kernel
theorem dX9_init_61 : decode cX9_init 61 = .ok (.dup, 1) := by decide +kernel
theorem dX9_init_62 : decode cX9_init 62 = .ok (.invokespecial 37, 3) := by decide +kernel
theorem dX9_init_65 : decode cX9_init 65 = .ok (.putfield 38, 3) := by decide +kernel
theorem dX9_init_68 : decode cX9_init 68 = .ok (.aload_n 0, 1) := by decide +kernel
theorem dX9_init_69 : decode cX9_init 69 = .ok (.new 42, 3) := by decide +kernel
theorem dX9_init_72 : decode cX9_init 72 = .ok (.dup, 1) := by decide +kernel
theorem dX9_init_73 : decode cX9_init 73 = .ok (.aload_n 0, 1) := by decide +kernel
theorem dX9_init_74 : decode cX9_init 74 = .ok (.getfield 10, 3) := by decide +kernel
theorem dX9_init_77 : decode cX9_init 77 = .ok (.aload_n 0, 1) := by decide +kernel
theorem dX9_init_78 : decode cX9_init 78 = .ok (.getfield 38, 3) := by decide +kernel
theorem dX9_init_81 : decode cX9_init 81 = .ok (.invokespecial 44, 3) := by decide +kernel
theorem dX9_init_84 : decode cX9_init 84 = .ok (.putfield 47, 3) := by decide +kernel
theorem dX9_init_87 : decode cX9_init 87 = .ok (.new 51, 3) := by decide +kernel
theorem dX9_init_90 : decode cX9_init 90 = .ok (.dup, 1) := by decide +kernel
theorem dX9_init_91 : decode cX9_init 91 = .ok (.invokespecial 53, 3) := by decide +kernel
theorem dX9_init_94 : decode cX9_init 94 = .ok (.astore_n 1, 1) := by decide +kernel
theorem dX9_init_95 : decode cX9_init 95 = .ok (.aload_n 0, 1) := by decide +kernel
theorem dX9_init_96 : decode cX9_init 96 = .ok (.new 54, 3) := by decide +kernel
theorem dX9_init_99 : decode cX9_init 99 = .ok (.dup, 1) := by decide +kernel
theorem dX9_init_100 : decode cX9_init 100 = .ok (.aload_n 0, 1) := by decide +kernel
theorem dX9_init_101 : decode cX9_init 101 = .ok (.getfield 38, 3) := by decide +kernel
theorem dX9_init_104 : decode cX9_init 104 = .ok (.aload_n 0, 1) := by decide +kernel
theorem dX9_init_105 : decode cX9_init 105 = .ok (.getfield 47, 3) := by decide +kernel
theorem dX9_init_108 : decode cX9_init 108 = .ok (.aload_n 1, 1) := by decide +kernel
theorem dX9_init_109 : decode cX9_init 109 = .ok (.invokespecial 56, 3) := by decide +kernel
theorem dX9_init_112 : decode cX9_init 112 = .ok (.putfield 59, 3) := by decide +kernel
theorem dX9_init_115 : decode cX9_init 115 = .ok (.aload_n 0, 1) := by decide +kernel
theorem dX9_init_116 : decode cX9_init 116 = .ok (.new 63, 3) := by decide +kernel
theorem dX9_init_119 : decode cX9_init 119 = .ok (.dup, 1) := by decide +kernel
theorem dX9_init_120 : decode cX9_init 120 = .ok (.aload_n 0, 1) := by decide +kernel
theorem dX9_init_121 : decode cX9_init 121 = .ok (.getfield 38, 3) := by decide +kernel
theorem dX9_init_124 : decode cX9_init 124 = .ok (.aload_n 0, 1) := by decide +kernel
theorem dX9_init_125 : decode cX9_init 125 = .ok (.getfield 47, 3) := by decide +kernel
theorem dX9_init_128 : decode cX9_init 128 = .ok (.aload_n 0, 1) := by decide +kernel
theorem dX9_init_129 : decode cX9_init 129 = .ok (.getfield 59, 3) := by decide +kernel
theorem dX9_init_132 : decode cX9_init 132 = .ok (.aload_n 1, 1) := by decide +kernel
theorem dX9_init_133 : decode cX9_init 133 = .ok (.invokespecial 65, 3) := by decide +kernel
theorem dX9_init_136 : decode cX9_init 136 = .ok (.putfield 68, 3) := by decide +kernel
theorem dX9_init_139 : decode cX9_init 139 = .ok (.aload_n 0, 1) := by decide +kernel
theorem dX9_init_140 : decode cX9_init 140 = .ok (.new 72, 3) := by decide +kernel
theorem dX9_init_143 : decode cX9_init 143 = .ok (.dup, 1) := by decide +kernel
theorem dX9_init_144 : decode cX9_init 144 = .ok (.aload_n 0, 1) := by decide +kernel
theorem dX9_init_145 : decode cX9_init 145 = .ok (.getfield 38, 3) := by decide +kernel
theorem dX9_init_148 : decode cX9_init 148 = .ok (.aload_n 0, 1) := by decide +kernel
theorem dX9_init_149 : decode cX9_init 149 = .ok (.getfield 47, 3) := by decide +kernel
theorem dX9_init_152 : decode cX9_init 152 = .ok (.aload_n 0, 1) := by decide +kernel
theorem dX9_init_153 : decode cX9_init 153 = .ok (.getfield 59, 3) := by decide +kernel
theorem dX9_init_156 : decode cX9_init 156 = .ok (.invokespecial 74, 3) := by decide +kernel
theorem dX9_init_159 : decode cX9_init 159 = .ok (.putfield 77, 3) := by decide +kernel
theorem dX9_init_162 : decode cX9_init 162 = .ok (.aload_n 0, 1) := by decide +kernel
theorem dX9_init_163 : decode cX9_init 163 = .ok (.new 81, 3) := by decide +kernel
theorem dX9_init_166 : decode cX9_init 166 = .ok (.dup, 1) := by decide +kernel
theorem dX9_init_167 : decode cX9_init 167 = .ok (.aload_n 0, 1) := by decide +kernel
theorem dX9_init_168 : decode cX9_init 168 = .ok (.getfield 10, 3) := by decide +kernel
theorem dX9_init_171 : decode cX9_init 171 = .ok (.aload_n 0, 1) := by decide +kernel
theorem dX9_init_172 : decode cX9_init 172 = .ok (.getfield 38, 3) := by decide +kernel
theorem dX9_init_175 : decode cX9_init 175 = .ok (.aload_n 0, 1) := by decide +kernel
theorem dX9_init_176 : decode cX9_init 176 = .ok (.getfield 47, 3) := by decide +kernel
theorem dX9_init_179 : decode cX9_init 179 = .ok (.invokespecial 83, 3) := by decide +kernel
theorem dX9_init_182 : decode cX9_init 182 = .ok (.putfield 86, 3) := by decide +kernel
theorem dX9_init_185 : decode cX9_init 185 = .ok (.aload_n 0, 1) := by decide +kernel
theorem dX9_init_186 : decode cX9_init 186 = .ok (.bipush 7, 2) := by decide +kernel
theorem dX9_init_188 : decode cX9_init 188 = .ok (.newarray .int, 2) := by decide +kernel
theorem dX9_init_190 : decode cX9_init 190 = .ok (.putfield 90, 3) := by decide +kernel
theorem dX9_init_193 : decode cX9_init 193 = .ok (.return_, 1) := by decide +kernel
theorem dX9_letter_0 : decode cX9_letter 0 = .ok (.iload_n 1, 1) := by decide +kernel
theorem dX9_letter_1 : decode cX9_letter 1 = .ok (.ifCond .ge 10, 3) := by decide +kernel
theorem dX9_letter_4 : decode cX9_letter 4 = .ok (.aload_n 0, 1) := by decide +kernel
theorem dX9_letter_5 : decode cX9_letter 5 = .ok (.bipush (-4), 2) := by decide +kernel
theorem dX9_letter_7 : decode cX9_letter 7 = .ok (.invokevirtual 94, 3) := by decide +kernel
theorem dX9_letter_10 : decode cX9_letter 10 = .ok (.ireturn, 1) := by decide +kernel
theorem dX9_letter_11 : decode cX9_letter 11 = .ok (.iload_n 1, 1) := by decide +kernel
theorem dX9_letter_12 : decode cX9_letter 12 = .ok (.sipush 255, 3) := by decide +kernel
theorem dX9_letter_15 : decode cX9_letter 15 = .ok (.if_icmp .gt 15, 3) := by decide +kernel
theorem dX9_letter_18 : decode cX9_letter 18 = .ok (.aload_n 0, 1) := by decide +kernel
theorem dX9_letter_19 : decode cX9_letter 19 = .ok (.getfield 10, 3) := by decide +kernel
theorem dX9_letter_22 : decode cX9_letter 22 = .ok (.getfield 98, 3) := by decide +kernel
theorem dX9_letter_25 : decode cX9_letter 25 = .ok (.bipush 64, 2) := by decide +kernel
theorem dX9_letter_27 : decode cX9_letter 27 = .ok (.if_icmp .lt 10, 3) := by decide +kernel
theorem dX9_letter_30 : decode cX9_letter 30 = .ok (.aload_n 0, 1) := by decide +kernel
theorem dX9_letter_31 : decode cX9_letter 31 = .ok (.bipush (-6), 2) := by decide +kernel
theorem dX9_letter_33 : decode cX9_letter 33 = .ok (.invokevirtual 94, 3) := by decide +kernel
theorem dX9_letter_36 : decode cX9_letter 36 = .ok (.ireturn, 1) := by decide +kernel
theorem dX9_letter_37 : decode cX9_letter 37 = .ok (.aload_n 0, 1) := by decide +kernel
theorem dX9_letter_38 : decode cX9_letter 38 = .ok (.getfield 10, 3) := by decide +kernel
theorem dX9_letter_41 : decode cX9_letter 41 = .ok (.getfield 102, 3) := by decide +kernel
theorem dX9_letter_44 : decode cX9_letter 44 = .ok (.aload_n 0, 1) := by decide +kernel
theorem dX9_letter_45 : decode cX9_letter 45 = .ok (.getfield 10, 3) := by decide +kernel
theorem dX9_letter_48 : decode cX9_letter 48 = .ok (.getfield 98, 3) := by decide +kernel
theorem dX9_letter_51 : decode cX9_letter 51 = .ok (.iload_n 1, 1) := by decide +kernel
theorem dX9_letter_52 : decode cX9_letter 52 = .ok (.iastore, 1) := by decide +kernel
theorem dX9_letter_53 : decode cX9_letter 53 = .ok (.aload_n 0, 1) := by decide +kernel
theorem dX9_letter_54 : decode cX9_letter 54 = .ok (.getfield 10, 3) := by decide +kernel
theorem dX9_letter_57 : decode cX9_letter 57 = .ok (.dup, 1) := by decide +kernel
theorem dX9_letter_58 : decode cX9_letter 58 = .ok (.getfield 98, 3) := by decide +kernel
theorem dX9_letter_61 : decode cX9_letter 61 = .ok (.iconst 1, 1) := by decide +kernel
theorem dX9_letter_62 : decode cX9_letter 62 = .ok (.iadd, 1) := by decide +kernel
theorem dX9_letter_63 : decode cX9_letter 63 = .ok (.putfield 98, 3) := by decide +kernel
theorem dX9_letter_66 : decode cX9_letter 66 = .ok (.aload_n 0, 1) := by decide +kernel
theorem dX9_letter_67 : decode cX9_letter 67 = .ok (.getfield 10, 3) := by decide +kernel
theorem dX9_letter_70 : decode cX9_letter 70 = .ok (.getfield 98, 3) := by decide +kernel
theorem dX9_letter_73 : decode cX9_letter 73 = .ok (.ireturn, 1) := by decide +kernel
theorem dX9_kitchen_0 : decode cX9_kitchen 0 = .ok (.aload_n 0, 1) := by decide +kernel
theorem dX9_kitchen_1 : decode cX9_kitchen 1 = .ok (.getfield 16, 3) := by decide +kernel
theorem dX9_kitchen_4 : decode cX9_kitchen 4 = .ok (.aload_n 0, 1) := by decide +kernel
theorem dX9_kitchen_5 : decode cX9_kitchen 5 = .ok (.getfield 10, 3) := by decide +kernel
theorem dX9_kitchen_8 : decode cX9_kitchen 8 = .ok (.invokevirtual 105, 3) := by decide +kernel
theorem dX9_kitchen_11 : decode cX9_kitchen 11 = .ok (.aload_n 0, 1) := by decide +kernel
theorem dX9_kitchen_12 : decode cX9_kitchen 12 = .ok (.getfield 10, 3) := by decide +kernel
theorem dX9_kitchen_15 : decode cX9_kitchen 15 = .ok (.iconst 0, 1) := by decide +kernel
theorem dX9_kitchen_16 : decode cX9_kitchen 16 = .ok (.putfield 98, 3) := by decide +kernel
theorem dX9_kitchen_19 : decode cX9_kitchen 19 = .ok (.aload_n 0, 1) := by decide +kernel
theorem dX9_kitchen_20 : decode cX9_kitchen 20 = .ok (.getfield 31, 3) := by decide +kernel
theorem dX9_kitchen_23 : decode cX9_kitchen 23 = .ok (.invokevirtual 108, 3) := by decide +kernel
theorem dX9_kitchen_26 : decode cX9_kitchen 26 = .ok (.istore_n 1, 1) := by decide +kernel
theorem dX9_kitchen_27 : decode cX9_kitchen 27 = .ok (.iload_n 1, 1) := by decide +kernel
theorem dX9_kitchen_28 : decode cX9_kitchen 28 = .ok (.ifCond .ge 5, 3) := by decide +kernel
theorem dX9_kitchen_31 : decode cX9_kitchen 31 = .ok (.iload_n 1, 1) := by decide +kernel
theorem dX9_kitchen_32 : decode cX9_kitchen 32 = .ok (.ireturn, 1) := by decide +kernel
theorem dX9_place_0 : decode cX9_place 0 = .ok (.iload_n 1, 1) := by decide +kernel
theorem dX9_place_1 : decode cX9_place 1 = .ok (.ifCond .lt 14, 3) := by decide +kernel
theorem dX9_place_4 : decode cX9_place 4 = .ok (.iload_n 1, 1) := by decide +kernel
theorem dX9_place_5 : decode cX9_place 5 = .ok (.aload_n 0, 1) := by decide +kernel
theorem dX9_place_6 : decode cX9_place 6 = .ok (.getfield 10, 3) := by decide +kernel
theorem dX9_place_9 : decode cX9_place 9 = .ok (.getfield 115, 3) := by decide +kernel
theorem dX9_place_12 : decode cX9_place 12 = .ok (.if_icmp .lt 9, 3) := by decide +kernel
theorem dX9_place_15 : decode cX9_place 15 = .ok (.aload_n 0, 1) := by decide +kernel
theorem dX9_place_16 : decode cX9_place 16 = .ok (.iconst (-1), 1) := by decide +kernel
theorem dX9_place_17 : decode cX9_place 17 = .ok (.invokevirtual 94, 3) := by decide +kernel
theorem dX9_place_20 : decode cX9_place 20 = .ok (.ireturn, 1) := by decide +kernel
theorem dX9_law_0 : decode cX9_law 0 = .ok (.iload_n 1, 1) := by decide +kernel
theorem dX9_law_1 : decode cX9_law 1 = .ok (.ifCond .lt 8, 3) := by decide +kernel
theorem dX9_law_4 : decode cX9_law 4 = .ok (.iload_n 1, 1) := by decide +kernel
theorem dX9_law_5 : decode cX9_law 5 = .ok (.iconst 5, 1) := by decide +kernel
theorem dX9_law_6 : decode cX9_law 6 = .ok (.if_icmp .lt 10, 3) := by decide +kernel
theorem dX9_law_9 : decode cX9_law 9 = .ok (.aload_n 0, 1) := by decide +kernel
theorem dX9_law_10 : decode cX9_law 10 = .ok (.bipush (-2), 2) := by decide +kernel
theorem dX9_law_12 : decode cX9_law 12 = .ok (.invokevirtual 94, 3) := by decide +kernel
theorem dX9_law_15 : decode cX9_law 15 = .ok (.ireturn, 1) := by decide +kernel
theorem dX9_law_16 : decode cX9_law 16 = .ok (.aload_n 0, 1) := by decide +kernel
theorem dX9_law_17 : decode cX9_law 17 = .ok (.getfield 10, 3) := by decide +kernel
theorem dX9_law_20 : decode cX9_law 20 = .ok (.getfield 124, 3) := by decide +kernel
theorem dX9_law_23 : decode cX9_law 23 = .ok (.istore_n 2, 1) := by decide +kernel
theorem dX9_law_24 : decode cX9_law 24 = .ok (.aload_n 0, 1) := by decide +kernel
theorem dX9_law_25 : decode cX9_law 25 = .ok (.getfield 10, 3) := by decide +kernel
theorem dX9_law_28 : decode cX9_law 28 = .ok (.iload_n 1, 1) := by decide +kernel
theorem dX9_law_29 : decode cX9_law 29 = .ok (.putfield 124, 3) := by decide +kernel
theorem dX9_law_32 : decode cX9_law 32 = .ok (.aload_n 0, 1) := by decide +kernel
theorem dX9_law_33 : decode cX9_law 33 = .ok (.invokevirtual 112, 3) := by decide +kernel
theorem dX9_law_36 : decode cX9_law 36 = .ok (.iload_n 2, 1) := by decide +kernel
theorem dX9_law_37 : decode cX9_law 37 = .ok (.ireturn, 1) := by decide +kernel
theorem dX9_may_0 : decode cX9_may 0 = .ok (.aload_n 0, 1) := by decide +kernel
theorem dX9_may_1 : decode cX9_may 1 = .ok (.getfield 38, 3) := by decide +kernel
theorem dX9_may_4 : decode cX9_may 4 = .ok (.iload_n 1, 1) := by decide +kernel
theorem dX9_may_5 : decode cX9_may 5 = .ok (.iload_n 2, 1) := by decide +kernel
theorem dX9_may_6 : decode cX9_may 6 = .ok (.invokevirtual 127, 3) := by decide +kernel
theorem dX9_may_9 : decode cX9_may 9 = .ok (.istore_n 3, 1) := by decide +kernel
theorem dX9_may_10 : decode cX9_may 10 = .ok (.iload_n 3, 1) := by decide +kernel
theorem dX9_may_11 : decode cX9_may 11 = .ok (.ifCond .ge 9, 3) := by decide +kernel
theorem dX9_may_14 : decode cX9_may 14 = .ok (.aload_n 0, 1) := by decide +kernel
theorem dX9_may_15 : decode cX9_may 15 = .ok (.iconst (-1), 1) := by decide +kernel
theorem dX9_may_16 : decode cX9_may 16 = .ok (.invokevirtual 94, 3) := by decide +kernel
theorem dX9_may_19 : decode cX9_may 19 = .ok (.ireturn, 1) := by decide +kernel
theorem dX9_turn_0 : decode cX9_turn 0 = .ok (.aload_n 0, 1) := by decide +kernel
theorem dX9_turn_1 : decode cX9_turn 1 = .ok (.getfield 38, 3) := by decide +kernel
theorem dX9_turn_4 : decode cX9_turn 4 = .ok (.iload_n 1, 1) := by decide +kernel
theorem dX9_turn_5 : decode cX9_turn 5 = .ok (.iload_n 2, 1) := by decide +kernel
theorem dX9_turn_6 : decode cX9_turn 6 = .ok (.invokevirtual 127, 3) := by decide +kernel
theorem dX9_turn_9 : decode cX9_turn 9 = .ok (.istore_n 3, 1) := by decide +kernel
theorem dX9_turn_10 : decode cX9_turn 10 = .ok (.iload_n 3, 1) := by decide +kernel
theorem dX9_turn_11 : decode cX9_turn 11 = .ok (.ifCond .ge 9, 3) := by decide +kernel
theorem dX9_turn_14 : decode cX9_turn 14 = .ok (.aload_n 0, 1) := by decide +kernel
theorem dX9_turn_15 : decode cX9_turn 15 = .ok (.iconst (-1), 1) := by decide +kernel
theorem dX9_turn_16 : decode cX9_turn 16 = .ok (.invokevirtual 94, 3) := by decide +kernel
theorem dX9_turn_19 : decode cX9_turn 19 = .ok (.ireturn, 1) := by decide +kernel
theorem dX9_inOrder_0 : decode cX9_inOrder 0 = .ok (.aload_n 0, 1) := by decide +kernel
theorem dX9_inOrder_1 : decode cX9_inOrder 1 = .ok (.getfield 47, 3) := by decide +kernel
theorem dX9_inOrder_4 : decode cX9_inOrder 4 = .ok (.aload_n 0, 1) := by decide +kernel
theorem dX9_inOrder_5 : decode cX9_inOrder 5 = .ok (.invokevirtual 149, 3) := by decide +kernel
theorem dX9_inOrder_8 : decode cX9_inOrder 8 = .ok (.invokevirtual 152, 3) := by decide +kernel
theorem dX9_inOrder_11 : decode cX9_inOrder 11 = .ok (.ifCond .eq 7, 3) := by decide +kernel
theorem dX9_inOrder_14 : decode cX9_inOrder 14 = .ok (.iconst 1, 1) := by decide +kernel
theorem dX9_inOrder_15 : decode cX9_inOrder 15 = .ok (.goto 4, 3) := by decide +kernel
theorem dX9_inOrder_19 : decode cX9_inOrder 19 = .ok (.ireturn, 1) := by decide +kernel
theorem dX9_gaps_0 : decode cX9_gaps 0 = .ok (.aload_n 0, 1) := by decide +kernel
theorem dX9_gaps_1 : decode cX9_gaps 1 = .ok (.getfield 47, 3) := by decide +kernel
theorem dX9_gaps_4 : decode cX9_gaps 4 = .ok (.aload_n 0, 1) := by decide +kernel
theorem dX9_gaps_5 : decode cX9_gaps 5 = .ok (.invokevirtual 149, 3) := by decide +kernel
theorem dX9_gaps_8 : decode cX9_gaps 8 = .ok (.invokevirtual 156, 3) := by decide +kernel
theorem dX9_gaps_11 : decode cX9_gaps 11 = .ok (.ireturn, 1) := by decide +kernel
theorem dX9_least_0 : decode cX9_least 0 = .ok (.aload_n 0, 1) := by decide +kernel
theorem dX9_least_1 : decode cX9_least 1 = .ok (.getfield 59, 3) := by decide +kernel
theorem dX9_least_4 : decode cX9_least 4 = .ok (.aload_n 0, 1) := by decide +kernel
theorem dX9_least_5 : decode cX9_least 5 = .ok (.invokevirtual 149, 3) := by decide +kernel
theorem dX9_least_8 : decode cX9_least 8 = .ok (.invokevirtual 159, 3) := by decide +kernel
theorem dX9_least_11 : decode cX9_least 11 = .ok (.invokestatic 162, 3) := by decide +kernel
theorem dX9_least_14 : decode cX9_least 14 = .ok (.ireturn, 1) := by decide +kernel
theorem dX9_cheapest_0 : decode cX9_cheapest 0 = .ok (.aload_n 0, 1) := by decide +kernel
theorem dX9_cheapest_1 : decode cX9_cheapest 1 = .ok (.getfield 59, 3) := by decide +kernel
theorem dX9_cheapest_4 : decode cX9_cheapest 4 = .ok (.aload_n 0, 1) := by decide +kernel
theorem dX9_cheapest_5 : decode cX9_cheapest 5 = .ok (.invokevirtual 149, 3) := by decide +kernel
theorem dX9_cheapest_8 : decode cX9_cheapest 8 = .ok (.invokevirtual 165, 3) := by decide +kernel
theorem dX9_cheapest_11 : decode cX9_cheapest 11 = .ok (.invokestatic 162, 3) := by decide +kernel
theorem dX9_cheapest_14 : decode cX9_cheapest 14 = .ok (.ireturn, 1) := by decide +kernel
theorem dX9_ways_0 : decode cX9_ways 0 = .ok (.aload_n 0, 1) := by decide +kernel
theorem dX9_ways_1 : decode cX9_ways 1 = .ok (.getfield 59, 3) := by decide +kernel
theorem dX9_ways_4 : decode cX9_ways 4 = .ok (.aload_n 0, 1) := by decide +kernel
theorem dX9_ways_5 : decode cX9_ways 5 = .ok (.invokevirtual 149, 3) := by decide +kernel
theorem dX9_ways_8 : decode cX9_ways 8 = .ok (.invokevirtual 168, 3) := by decide +kernel
theorem dX9_ways_11 : decode cX9_ways 11 = .ok (.ireturn, 1) := by decide +kernel
theorem dX9_far_0 : decode cX9_far 0 = .ok (.iload_n 1, 1) := by decide +kernel
theorem dX9_far_1 : decode cX9_far 1 = .ok (.iconst (-1), 1) := by decide +kernel
theorem dX9_far_2 : decode cX9_far 2 = .ok (.if_icmp .ge 10, 3) := by decide +kernel
theorem dX9_far_5 : decode cX9_far 5 = .ok (.aload_n 0, 1) := by decide +kernel
theorem dX9_far_6 : decode cX9_far 6 = .ok (.bipush (-4), 2) := by decide +kernel
theorem dX9_far_8 : decode cX9_far 8 = .ok (.invokevirtual 94, 3) := by decide +kernel
theorem dX9_far_11 : decode cX9_far 11 = .ok (.ireturn, 1) := by decide +kernel
theorem dX9_far_12 : decode cX9_far 12 = .ok (.iload_n 1, 1) := by decide +kernel
theorem dX9_far_13 : decode cX9_far 13 = .ok (.bipush 20, 2) := by decide +kernel
theorem dX9_far_15 : decode cX9_far 15 = .ok (.if_icmp .le 10, 3) := by decide +kernel
theorem dX9_far_18 : decode cX9_far 18 = .ok (.aload_n 0, 1) := by decide +kernel
theorem dX9_far_19 : decode cX9_far 19 = .ok (.bipush (-6), 2) := by decide +kernel
theorem dX9_far_21 : decode cX9_far 21 = .ok (.invokevirtual 94, 3) := by decide +kernel
theorem dX9_far_24 : decode cX9_far 24 = .ok (.ireturn, 1) := by decide +kernel
theorem dX9_far_25 : decode cX9_far 25 = .ok (.aload_n 0, 1) := by decide +kernel
theorem dX9_far_26 : decode cX9_far 26 = .ok (.getfield 59, 3) := by decide +kernel
theorem dX9_far_29 : decode cX9_far 29 = .ok (.iload_n 1, 1) := by decide +kernel
theorem dX9_far_30 : decode cX9_far 30 = .ok (.invokevirtual 171, 3) := by decide +kernel
theorem dX9_far_33 : decode cX9_far 33 = .ok (.ireturn, 1) := by decide +kernel
theorem dX9_worst_0 : decode cX9_worst 0 = .ok (.iload_n 1, 1) := by decide +kernel
theorem dX9_worst_1 : decode cX9_worst 1 = .ok (.iconst (-1), 1) := by decide +kernel
theorem dX9_worst_2 : decode cX9_worst 2 = .ok (.if_icmp .lt 14, 3) := by decide +kernel
theorem dX9_worst_5 : decode cX9_worst 5 = .ok (.iload_n 1, 1) := by decide +kernel
theorem dX9_worst_6 : decode cX9_worst 6 = .ok (.aload_n 0, 1) := by decide +kernel
theorem dX9_worst_7 : decode cX9_worst 7 = .ok (.getfield 10, 3) := by decide +kernel
theorem dX9_worst_10 : decode cX9_worst 10 = .ok (.getfield 115, 3) := by decide +kernel
theorem dX9_worst_13 : decode cX9_worst 13 = .ok (.if_icmp .lt 9, 3) := by decide +kernel
theorem dX9_worst_16 : decode cX9_worst 16 = .ok (.aload_n 0, 1) := by decide +kernel
theorem dX9_worst_17 : decode cX9_worst 17 = .ok (.iconst (-1), 1) := by decide +kernel
theorem dX9_worst_18 : decode cX9_worst 18 = .ok (.invokevirtual 94, 3) := by decide +kernel
theorem dX9_worst_21 : decode cX9_worst 21 = .ok (.ireturn, 1) := by decide +kernel
theorem dX9_worst_22 : decode cX9_worst 22 = .ok (.aload_n 0, 1) := by decide +kernel
theorem dX9_worst_23 : decode cX9_worst 23 = .ok (.getfield 10, 3) := by decide +kernel
theorem dX9_worst_26 : decode cX9_worst 26 = .ok (.getfield 115, 3) := by decide +kernel
theorem dX9_worst_29 : decode cX9_worst 29 = .ok (.ifCond .ne 10, 3) := by decide +kernel
theorem dX9_worst_32 : decode cX9_worst 32 = .ok (.aload_n 0, 1) := by decide +kernel
theorem dX9_worst_33 : decode cX9_worst 33 = .ok (.bipush (-3), 2) := by decide +kernel
theorem dX9_worst_35 : decode cX9_worst 35 = .ok (.invokevirtual 94, 3) := by decide +kernel
theorem dX9_worst_38 : decode cX9_worst 38 = .ok (.ireturn, 1) := by decide +kernel
theorem dX9_before_0 : decode cX9_before 0 = .ok (.iload_n 1, 1) := by decide +kernel
theorem dX9_before_1 : decode cX9_before 1 = .ok (.ifCond .ge 10, 3) := by decide +kernel
theorem dX9_before_4 : decode cX9_before 4 = .ok (.aload_n 0, 1) := by decide +kernel
theorem dX9_before_5 : decode cX9_before 5 = .ok (.bipush (-4), 2) := by decide +kernel
theorem dX9_before_7 : decode cX9_before 7 = .ok (.invokevirtual 94, 3) := by decide +kernel
theorem dX9_before_10 : decode cX9_before 10 = .ok (.ireturn, 1) := by decide +kernel
theorem dX9_before_11 : decode cX9_before 11 = .ok (.iload_n 1, 1) := by decide +kernel
theorem dX9_before_12 : decode cX9_before 12 = .ok (.iconst 4, 1) := by decide +kernel
theorem dX9_before_13 : decode cX9_before 13 = .ok (.if_icmp .le 10, 3) := by decide +kernel
theorem dX9_before_16 : decode cX9_before 16 = .ok (.aload_n 0, 1) := by decide +kernel
theorem dX9_before_17 : decode cX9_before 17 = .ok (.bipush (-6), 2) := by decide +kernel
theorem dX9_before_19 : decode cX9_before 19 = .ok (.invokevirtual 94, 3) := by decide +kernel
theorem dX9_before_22 : decode cX9_before 22 = .ok (.ireturn, 1) := by decide +kernel
theorem dX9_before_23 : decode cX9_before 23 = .ok (.aload_n 0, 1) := by decide +kernel
theorem dX9_before_24 : decode cX9_before 24 = .ok (.getfield 68, 3) := by decide +kernel
theorem dX9_before_27 : decode cX9_before 27 = .ok (.aload_n 0, 1) := by decide +kernel
theorem dX9_before_28 : decode cX9_before 28 = .ok (.invokevirtual 149, 3) := by decide +kernel
theorem dX9_before_31 : decode cX9_before 31 = .ok (.iload_n 1, 1) := by decide +kernel
theorem dX9_before_32 : decode cX9_before 32 = .ok (.invokevirtual 180, 3) := by decide +kernel
theorem dX9_before_35 : decode cX9_before 35 = .ok (.ireturn, 1) := by decide +kernel
theorem dX9_next_0 : decode cX9_next 0 = .ok (.iload_n 1, 1) := by decide +kernel
theorem dX9_next_1 : decode cX9_next 1 = .ok (.ifCond .lt 8, 3) := by decide +kernel
theorem dX9_next_4 : decode cX9_next 4 = .ok (.iload_n 1, 1) := by decide +kernel
theorem dX9_next_5 : decode cX9_next 5 = .ok (.iconst 5, 1) := by decide +kernel
theorem dX9_next_6 : decode cX9_next 6 = .ok (.if_icmp .lt 10, 3) := by decide +kernel
theorem dX9_next_9 : decode cX9_next 9 = .ok (.aload_n 0, 1) := by decide +kernel
theorem dX9_next_10 : decode cX9_next 10 = .ok (.bipush (-2), 2) := by decide +kernel
theorem dX9_next_12 : decode cX9_next 12 = .ok (.invokevirtual 94, 3) := by decide +kernel
theorem dX9_next_15 : decode cX9_next 15 = .ok (.ireturn, 1) := by decide +kernel
theorem dX9_next_16 : decode cX9_next 16 = .ok (.aload_n 0, 1) := by decide +kernel
theorem dX9_next_17 : decode cX9_next 17 = .ok (.getfield 77, 3) := by decide +kernel
theorem dX9_next_20 : decode cX9_next 20 = .ok (.iload_n 1, 1) := by decide +kernel
theorem dX9_next_21 : decode cX9_next 21 = .ok (.aload_n 0, 1) := by decide +kernel
theorem dX9_next_22 : decode cX9_next 22 = .ok (.invokevirtual 149, 3) := by decide +kernel
theorem dX9_next_25 : decode cX9_next 25 = .ok (.invokevirtual 183, 3) := by decide +kernel
theorem dX9_next_28 : decode cX9_next 28 = .ok (.istore_n 2, 1) := by decide +kernel
theorem dX9_next_29 : decode cX9_next 29 = .ok (.iload_n 2, 1) := by decide +kernel
theorem dX9_next_30 : decode cX9_next 30 = .ok (.ifCond .ge 8, 3) := by decide +kernel
theorem dX9_next_33 : decode cX9_next 33 = .ok (.bipush (-9), 2) := by decide +kernel
theorem dX9_next_35 : decode cX9_next 35 = .ok (.goto 11, 3) := by decide +kernel
theorem dX9_next_46 : decode cX9_next 46 = .ok (.ireturn, 1) := by decide +kernel
theorem dX9_rule_0 : decode cX9_rule 0 = .ok (.iload_n 1, 1) := by decide +kernel
theorem dX9_rule_1 : decode cX9_rule 1 = .ok (.ifCond .lt 8, 3) := by decide +kernel
theorem dX9_rule_4 : decode cX9_rule 4 = .ok (.iload_n 1, 1) := by decide +kernel
theorem dX9_rule_5 : decode cX9_rule 5 = .ok (.iconst 5, 1) := by decide +kernel
theorem dX9_rule_6 : decode cX9_rule 6 = .ok (.if_icmp .lt 10, 3) := by decide +kernel
theorem dX9_rule_9 : decode cX9_rule 9 = .ok (.aload_n 0, 1) := by decide +kernel
theorem dX9_rule_10 : decode cX9_rule 10 = .ok (.bipush (-2), 2) := by decide +kernel
theorem dX9_rule_12 : decode cX9_rule 12 = .ok (.invokevirtual 94, 3) := by decide +kernel
theorem dX9_rule_15 : decode cX9_rule 15 = .ok (.ireturn, 1) := by decide +kernel
theorem dX9_rule_16 : decode cX9_rule 16 = .ok (.aload_n 0, 1) := by decide +kernel
theorem dX9_rule_17 : decode cX9_rule 17 = .ok (.getfield 77, 3) := by decide +kernel
theorem dX9_rule_20 : decode cX9_rule 20 = .ok (.iload_n 1, 1) := by decide +kernel
theorem dX9_rule_21 : decode cX9_rule 21 = .ok (.aload_n 0, 1) := by decide +kernel
theorem dX9_rule_22 : decode cX9_rule 22 = .ok (.invokevirtual 149, 3) := by decide +kernel
theorem dX9_rule_25 : decode cX9_rule 25 = .ok (.invokevirtual 189, 3) := by decide +kernel
theorem dX9_rule_28 : decode cX9_rule 28 = .ok (.invokestatic 162, 3) := by decide +kernel
theorem dX9_rule_31 : decode cX9_rule 31 = .ok (.ireturn, 1) := by decide +kernel
theorem dX9_row_0 : decode cX9_row 0 = .ok (.iload_n 1, 1) := by decide +kernel
theorem dX9_row_1 : decode cX9_row 1 = .ok (.ifCond .ge 10, 3) := by decide +kernel
theorem dX9_row_4 : decode cX9_row 4 = .ok (.aload_n 0, 1) := by decide +kernel
theorem dX9_row_5 : decode cX9_row 5 = .ok (.bipush (-4), 2) := by decide +kernel
theorem dX9_row_7 : decode cX9_row 7 = .ok (.invokevirtual 94, 3) := by decide +kernel
theorem dX9_row_10 : decode cX9_row 10 = .ok (.ireturn, 1) := by decide +kernel
theorem dX9_row_11 : decode cX9_row 11 = .ok (.iload_n 1, 1) := by decide +kernel
theorem dX9_row_12 : decode cX9_row 12 = .ok (.bipush 99, 2) := by decide +kernel
theorem dX9_row_14 : decode cX9_row 14 = .ok (.if_icmp .gt 15, 3) := by decide +kernel
theorem dX9_row_17 : decode cX9_row 17 = .ok (.aload_n 0, 1) := by decide +kernel
theorem dX9_row_18 : decode cX9_row 18 = .ok (.getfield 10, 3) := by decide +kernel
theorem dX9_row_21 : decode cX9_row 21 = .ok (.getfield 192, 3) := by decide +kernel
theorem dX9_row_24 : decode cX9_row 24 = .ok (.bipush 8, 2) := by decide +kernel
theorem dX9_row_26 : decode cX9_row 26 = .ok (.if_icmp .lt 10, 3) := by decide +kernel
theorem dX9_row_29 : decode cX9_row 29 = .ok (.aload_n 0, 1) := by decide +kernel
theorem dX9_row_30 : decode cX9_row 30 = .ok (.bipush (-6), 2) := by decide +kernel
theorem dX9_row_32 : decode cX9_row 32 = .ok (.invokevirtual 94, 3) := by decide +kernel
theorem dX9_row_35 : decode cX9_row 35 = .ok (.ireturn, 1) := by decide +kernel
theorem dX9_row_36 : decode cX9_row 36 = .ok (.aload_n 0, 1) := by decide +kernel
theorem dX9_row_37 : decode cX9_row 37 = .ok (.getfield 10, 3) := by decide +kernel
theorem dX9_row_40 : decode cX9_row 40 = .ok (.getfield 195, 3) := by decide +kernel
theorem dX9_row_43 : decode cX9_row 43 = .ok (.aload_n 0, 1) := by decide +kernel
theorem dX9_row_44 : decode cX9_row 44 = .ok (.getfield 10, 3) := by decide +kernel
theorem dX9_row_47 : decode cX9_row 47 = .ok (.getfield 192, 3) := by decide +kernel
theorem dX9_row_50 : decode cX9_row 50 = .ok (.iload_n 1, 1) := by decide +kernel
theorem dX9_row_51 : decode cX9_row 51 = .ok (.iastore, 1) := by decide +kernel
theorem dX9_row_52 : decode cX9_row 52 = .ok (.aload_n 0, 1) := by decide +kernel
theorem dX9_row_53 : decode cX9_row 53 = .ok (.getfield 10, 3) := by decide +kernel
theorem dX9_row_56 : decode cX9_row 56 = .ok (.dup, 1) := by decide +kernel
theorem dX9_row_57 : decode cX9_row 57 = .ok (.getfield 192, 3) := by decide +kernel
theorem dX9_row_60 : decode cX9_row 60 = .ok (.iconst 1, 1) := by decide +kernel
theorem dX9_row_61 : decode cX9_row 61 = .ok (.iadd, 1) := by decide +kernel
theorem dX9_row_62 : decode cX9_row 62 = .ok (.putfield 192, 3) := by decide +kernel
theorem dX9_row_65 : decode cX9_row 65 = .ok (.aload_n 0, 1) := by decide +kernel
theorem dX9_row_66 : decode cX9_row 66 = .ok (.getfield 10, 3) := by decide +kernel
theorem dX9_row_69 : decode cX9_row 69 = .ok (.getfield 192, 3) := by decide +kernel
theorem dX9_row_72 : decode cX9_row 72 = .ok (.ireturn, 1) := by decide +kernel
theorem dX9_path_0 : decode cX9_path 0 = .ok (.aload_n 0, 1) := by decide +kernel
theorem dX9_path_1 : decode cX9_path 1 = .ok (.getfield 10, 3) := by decide +kernel
theorem dX9_path_4 : decode cX9_path 4 = .ok (.invokevirtual 198, 3) := by decide +kernel
theorem dX9_path_7 : decode cX9_path 7 = .ok (.ifCond .ne 10, 3) := by decide +kernel
theorem dX9_path_17 : decode cX9_path 17 = .ok (.aload_n 0, 1) := by decide +kernel
theorem dX9_path_18 : decode cX9_path 18 = .ok (.getfield 10, 3) := by decide +kernel
theorem dX9_path_21 : decode cX9_path 21 = .ok (.iconst 0, 1) := by decide +kernel
theorem dX9_path_22 : decode cX9_path 22 = .ok (.putfield 192, 3) := by decide +kernel
theorem dX9_path_25 : decode cX9_path 25 = .ok (.aload_n 0, 1) := by decide +kernel
theorem dX9_path_26 : decode cX9_path 26 = .ok (.getfield 68, 3) := by decide +kernel
theorem dX9_path_29 : decode cX9_path 29 = .ok (.aload_n 0, 1) := by decide +kernel
theorem dX9_path_30 : decode cX9_path 30 = .ok (.invokevirtual 149, 3) := by decide +kernel
theorem dX9_path_33 : decode cX9_path 33 = .ok (.aload_n 0, 1) := by decide +kernel
theorem dX9_path_34 : decode cX9_path 34 = .ok (.getfield 38, 3) := by decide +kernel
theorem dX9_path_37 : decode cX9_path 37 = .ok (.aload_n 0, 1) := by decide +kernel
theorem dX9_path_38 : decode cX9_path 38 = .ok (.getfield 10, 3) := by decide +kernel
theorem dX9_path_41 : decode cX9_path 41 = .ok (.getfield 195, 3) := by decide +kernel
theorem dX9_path_44 : decode cX9_path 44 = .ok (.invokevirtual 202, 3) := by decide +kernel
theorem dX9_path_47 : decode cX9_path 47 = .ok (.invokevirtual 205, 3) := by decide +kernel
theorem dX9_path_50 : decode cX9_path 50 = .ok (.invokestatic 162, 3) := by decide +kernel
theorem dX9_path_53 : decode cX9_path 53 = .ok (.ireturn, 1) := by decide +kernel
theorem dX9_judge_0 : decode cX9_judge 0 = .ok (.aload_n 0, 1) := by decide +kernel
theorem dX9_judge_1 : decode cX9_judge 1 = .ok (.getfield 10, 3) := by decide +kernel
theorem dX9_judge_4 : decode cX9_judge 4 = .ok (.getfield 192, 3) := by decide +kernel
theorem dX9_judge_7 : decode cX9_judge 7 = .ok (.istore_n 1, 1) := by decide +kernel
theorem dX9_judge_8 : decode cX9_judge 8 = .ok (.aload_n 0, 1) := by decide +kernel
theorem dX9_judge_9 : decode cX9_judge 9 = .ok (.getfield 10, 3) := by decide +kernel
theorem dX9_judge_12 : decode cX9_judge 12 = .ok (.iconst 0, 1) := by decide +kernel
theorem dX9_judge_13 : decode cX9_judge 13 = .ok (.putfield 192, 3) := by decide +kernel
theorem dX9_judge_16 : decode cX9_judge 16 = .ok (.aload_n 0, 1) := by decide +kernel
theorem dX9_judge_17 : decode cX9_judge 17 = .ok (.invokevirtual 149, 3) := by decide +kernel
theorem dX9_judge_20 : decode cX9_judge 20 = .ok (.istore_n 2, 1) := by decide +kernel
theorem dX9_judge_21 : decode cX9_judge 21 = .ok (.iconst 0, 1) := by decide +kernel
theorem dX9_judge_22 : decode cX9_judge 22 = .ok (.istore_n 3, 1) := by decide +kernel
theorem dX9_judge_23 : decode cX9_judge 23 = .ok (.iload_n 3, 1) := by decide +kernel
theorem dX9_judge_24 : decode cX9_judge 24 = .ok (.iload_n 1, 1) := by decide +kernel
theorem dX9_judge_25 : decode cX9_judge 25 = .ok (.if_icmp .ge 65, 3) := by decide +kernel
theorem dX9_judge_90 : decode cX9_judge 90 = .ok (.aload_n 0, 1) := by decide +kernel
theorem dX9_judge_91 : decode cX9_judge 91 = .ok (.getfield 47, 3) := by decide +kernel
theorem dX9_judge_94 : decode cX9_judge 94 = .ok (.iload_n 2, 1) := by decide +kernel
theorem dX9_judge_95 : decode cX9_judge 95 = .ok (.invokevirtual 152, 3) := by decide +kernel
theorem dX9_judge_98 : decode cX9_judge 98 = .ok (.ifCond .eq 8, 3) := by decide +kernel
theorem dX9_judge_101 : decode cX9_judge 101 = .ok (.bipush (-9), 2) := by decide +kernel
theorem dX9_judge_103 : decode cX9_judge 103 = .ok (.goto 4, 3) := by decide +kernel
theorem dX9_judge_107 : decode cX9_judge 107 = .ok (.ireturn, 1) := by decide +kernel
theorem dX9_blind_0 : decode cX9_blind 0 = .ok (.aload_n 0, 1) := by decide +kernel
theorem dX9_blind_1 : decode cX9_blind 1 = .ok (.getfield 86, 3) := by decide +kernel
theorem dX9_blind_4 : decode cX9_blind 4 = .ok (.invokevirtual 217, 3) := by decide +kernel
theorem dX9_blind_7 : decode cX9_blind 7 = .ok (.ifCond .ne 10, 3) := by decide +kernel
theorem dX9_blind_17 : decode cX9_blind 17 = .ok (.aload_n 0, 1) := by decide +kernel
theorem dX9_blind_18 : decode cX9_blind 18 = .ok (.getfield 10, 3) := by decide +kernel
theorem dX9_blind_21 : decode cX9_blind 21 = .ok (.iconst 0, 1) := by decide +kernel
theorem dX9_blind_22 : decode cX9_blind 22 = .ok (.putfield 192, 3) := by decide +kernel
theorem dX9_blind_25 : decode cX9_blind 25 = .ok (.aload_n 0, 1) := by decide +kernel
theorem dX9_blind_26 : decode cX9_blind 26 = .ok (.getfield 86, 3) := by decide +kernel
theorem dX9_blind_29 : decode cX9_blind 29 = .ok (.invokevirtual 220, 3) := by decide +kernel
theorem dX9_blind_32 : decode cX9_blind 32 = .ok (.ifCond .eq 7, 3) := by decide +kernel
theorem dX9_blind_35 : decode cX9_blind 35 = .ok (.iconst 1, 1) := by decide +kernel
theorem dX9_blind_36 : decode cX9_blind 36 = .ok (.goto 4, 3) := by decide +kernel
theorem dX9_blind_40 : decode cX9_blind 40 = .ok (.ireturn, 1) := by decide +kernel
theorem dX9_fewest_0 : decode cX9_fewest 0 = .ok (.iload_n 1, 1) := by decide +kernel
theorem dX9_fewest_1 : decode cX9_fewest 1 = .ok (.iconst (-1), 1) := by decide +kernel
theorem dX9_fewest_2 : decode cX9_fewest 2 = .ok (.if_icmp .ge 10, 3) := by decide +kernel
theorem dX9_fewest_5 : decode cX9_fewest 5 = .ok (.aload_n 0, 1) := by decide +kernel
theorem dX9_fewest_6 : decode cX9_fewest 6 = .ok (.bipush (-4), 2) := by decide +kernel
theorem dX9_fewest_8 : decode cX9_fewest 8 = .ok (.invokevirtual 94, 3) := by decide +kernel
theorem dX9_fewest_11 : decode cX9_fewest 11 = .ok (.ireturn, 1) := by decide +kernel
theorem dX9_fewest_12 : decode cX9_fewest 12 = .ok (.aload_n 0, 1) := by decide +kernel
theorem dX9_fewest_13 : decode cX9_fewest 13 = .ok (.getfield 86, 3) := by decide +kernel
theorem dX9_fewest_16 : decode cX9_fewest 16 = .ok (.invokevirtual 223, 3) := by decide +kernel
theorem dX9_fewest_19 : decode cX9_fewest 19 = .ok (.istore_n 2, 1) := by decide +kernel
theorem dX9_fewest_20 : decode cX9_fewest 20 = .ok (.iload_n 1, 1) := by decide +kernel
theorem dX9_fewest_21 : decode cX9_fewest 21 = .ok (.ifCond .ge 8, 3) := by decide +kernel
theorem dX9_fewest_24 : decode cX9_fewest 24 = .ok (.iload_n 2, 1) := by decide +kernel
theorem dX9_fewest_25 : decode cX9_fewest 25 = .ok (.invokestatic 162, 3) := by decide +kernel
theorem dX9_fewest_28 : decode cX9_fewest 28 = .ok (.ireturn, 1) := by decide +kernel
theorem dX9_fewest_29 : decode cX9_fewest 29 = .ok (.iload_n 1, 1) := by decide +kernel
theorem dX9_fewest_30 : decode cX9_fewest 30 = .ok (.iload_n 2, 1) := by decide +kernel
theorem dX9_fewest_31 : decode cX9_fewest 31 = .ok (.if_icmp .ge 21, 3) := by decide +kernel
theorem dX9_fewest_52 : decode cX9_fewest 52 = .ok (.bipush (-9), 2) := by decide +kernel
theorem dX9_fewest_54 : decode cX9_fewest 54 = .ok (.ireturn, 1) := by decide +kernel
theorem dX9_match_0 : decode cX9_match 0 = .ok (.aload_n 0, 1) := by decide +kernel
theorem dX9_match_1 : decode cX9_match 1 = .ok (.getfield 68, 3) := by decide +kernel
theorem dX9_match_4 : decode cX9_match 4 = .ok (.aload_n 0, 1) := by decide +kernel
theorem dX9_match_5 : decode cX9_match 5 = .ok (.invokevirtual 149, 3) := by decide +kernel
theorem dX9_match_8 : decode cX9_match 8 = .ok (.invokevirtual 229, 3) := by decide +kernel
theorem dX9_match_11 : decode cX9_match 11 = .ok (.ireturn, 1) := by decide +kernel
theorem dX9_shuffled_0 : decode cX9_shuffled 0 = .ok (.iload_n 1, 1) := by decide +kernel
theorem dX9_shuffled_1 : decode cX9_shuffled 1 = .ok (.ifCond .ge 10, 3) := by decide +kernel
theorem dX9_shuffled_4 : decode cX9_shuffled 4 = .ok (.aload_n 0, 1) := by decide +kernel
theorem dX9_shuffled_5 : decode cX9_shuffled 5 = .ok (.bipush (-4), 2) := by decide +kernel
theorem dX9_shuffled_7 : decode cX9_shuffled 7 = .ok (.invokevirtual 94, 3) := by decide +kernel
theorem dX9_shuffled_10 : decode cX9_shuffled 10 = .ok (.ireturn, 1) := by decide +kernel
theorem dX9_shuffled_11 : decode cX9_shuffled 11 = .ok (.iload_n 1, 1) := by decide +kernel
theorem dX9_shuffled_12 : decode cX9_shuffled 12 = .ok (.bipush 30, 2) := by decide +kernel
theorem dX9_shuffled_14 : decode cX9_shuffled 14 = .ok (.if_icmp .le 10, 3) := by decide +kernel
theorem dX9_shuffled_17 : decode cX9_shuffled 17 = .ok (.aload_n 0, 1) := by decide +kernel
theorem dX9_shuffled_18 : decode cX9_shuffled 18 = .ok (.bipush (-6), 2) := by decide +kernel
theorem dX9_shuffled_20 : decode cX9_shuffled 20 = .ok (.invokevirtual 94, 3) := by decide +kernel
theorem dX9_shuffled_23 : decode cX9_shuffled 23 = .ok (.ireturn, 1) := by decide +kernel
theorem dX9_shuffled_24 : decode cX9_shuffled 24 = .ok (.aload_n 0, 1) := by decide +kernel
theorem dX9_shuffled_25 : decode cX9_shuffled 25 = .ok (.getfield 59, 3) := by decide +kernel
theorem dX9_shuffled_28 : decode cX9_shuffled 28 = .ok (.aload_n 0, 1) := by decide +kernel
theorem dX9_shuffled_29 : decode cX9_shuffled 29 = .ok (.getfield 68, 3) := by decide +kernel
theorem dX9_shuffled_32 : decode cX9_shuffled 32 = .ok (.aload_n 0, 1) := by decide +kernel
theorem dX9_shuffled_33 : decode cX9_shuffled 33 = .ok (.invokevirtual 149, 3) := by decide +kernel
theorem dX9_shuffled_36 : decode cX9_shuffled 36 = .ok (.iload_n 1, 1) := by decide +kernel
theorem dX9_shuffled_37 : decode cX9_shuffled 37 = .ok (.iload_n 2, 1) := by decide +kernel
theorem dX9_shuffled_38 : decode cX9_shuffled 38 = .ok (.invokevirtual 232, 3) := by decide +kernel
theorem dX9_shuffled_41 : decode cX9_shuffled 41 = .ok (.invokevirtual 159, 3) := by decide +kernel
theorem dX9_shuffled_44 : decode cX9_shuffled 44 = .ok (.invokestatic 162, 3) := by decide +kernel
theorem dX9_shuffled_47 : decode cX9_shuffled 47 = .ok (.ireturn, 1) := by decide +kernel
theorem dX9_sights_0 : decode cX9_sights 0 = .ok (.iload_n 1, 1) := by decide +kernel
theorem dX9_sights_1 : decode cX9_sights 1 = .ok (.ifCond .lt 14, 3) := by decide +kernel
theorem dX9_sights_4 : decode cX9_sights 4 = .ok (.iload_n 1, 1) := by decide +kernel
theorem dX9_sights_5 : decode cX9_sights 5 = .ok (.aload_n 0, 1) := by decide +kernel
theorem dX9_sights_6 : decode cX9_sights 6 = .ok (.getfield 10, 3) := by decide +kernel
theorem dX9_sights_9 : decode cX9_sights 9 = .ok (.getfield 236, 3) := by decide +kernel
theorem dX9_sights_12 : decode cX9_sights 12 = .ok (.if_icmp .lt 9, 3) := by decide +kernel
theorem dX9_sights_15 : decode cX9_sights 15 = .ok (.aload_n 0, 1) := by decide +kernel
theorem dX9_sights_16 : decode cX9_sights 16 = .ok (.iconst (-1), 1) := by decide +kernel
theorem dX9_sights_17 : decode cX9_sights 17 = .ok (.invokevirtual 94, 3) := by decide +kernel
theorem dX9_sights_20 : decode cX9_sights 20 = .ok (.ireturn, 1) := by decide +kernel
theorem dX9_image_0 : decode cX9_image 0 = .ok (.aload_n 0, 1) := by decide +kernel
theorem dX9_image_1 : decode cX9_image 1 = .ok (.getfield 19, 3) := by decide +kernel
theorem dX9_image_4 : decode cX9_image 4 = .ok (.aload_n 0, 1) := by decide +kernel
theorem dX9_image_5 : decode cX9_image 5 = .ok (.getfield 10, 3) := by decide +kernel
theorem dX9_image_8 : decode cX9_image 8 = .ok (.invokevirtual 105, 3) := by decide +kernel
theorem dX9_image_11 : decode cX9_image 11 = .ok (.aload_n 0, 1) := by decide +kernel
theorem dX9_image_12 : decode cX9_image 12 = .ok (.iconst 1, 1) := by decide +kernel
theorem dX9_image_13 : decode cX9_image 13 = .ok (.putfield 22, 3) := by decide +kernel
theorem dX9_image_16 : decode cX9_image 16 = .ok (.aload_n 0, 1) := by decide +kernel
theorem dX9_image_17 : decode cX9_image 17 = .ok (.getfield 10, 3) := by decide +kernel
theorem dX9_image_20 : decode cX9_image 20 = .ok (.getfield 115, 3) := by decide +kernel
theorem dX9_image_23 : decode cX9_image 23 = .ok (.ireturn, 1) := by decide +kernel
theorem dX9_on_0 : decode cX9_on 0 = .ok (.aload_n 0, 1) := by decide +kernel
theorem dX9_on_1 : decode cX9_on 1 = .ok (.getfield 22, 3) := by decide +kernel
theorem dX9_on_4 : decode cX9_on 4 = .ok (.ifCond .ne 10, 3) := by decide +kernel
theorem dX9_on_7 : decode cX9_on 7 = .ok (.aload_n 0, 1) := by decide +kernel
theorem dX9_on_8 : decode cX9_on 8 = .ok (.bipush (-3), 2) := by decide +kernel
theorem dX9_on_10 : decode cX9_on 10 = .ok (.invokevirtual 94, 3) := by decide +kernel
theorem dX9_on_13 : decode cX9_on 13 = .ok (.ireturn, 1) := by decide +kernel
theorem dX9_count_0 : decode cX9_count 0 = .ok (.iload_n 1, 1) := by decide +kernel
theorem dX9_count_1 : decode cX9_count 1 = .ok (.bipush 11, 2) := by decide +kernel
theorem dX9_count_3 : decode cX9_count 3 = .ok (.if_icmp .lt 19, 3) := by decide +kernel
theorem dX9_count_6 : decode cX9_count 6 = .ok (.iload_n 1, 1) := by decide +kernel
theorem dX9_count_7 : decode cX9_count 7 = .ok (.bipush 16, 2) := by decide +kernel
theorem dX9_count_9 : decode cX9_count 9 = .ok (.if_icmp .gt 13, 3) := by decide +kernel
theorem dX9_count_12 : decode cX9_count 12 = .ok (.aload_n 0, 1) := by decide +kernel
theorem dX9_count_13 : decode cX9_count 13 = .ok (.getfield 90, 3) := by decide +kernel
theorem dX9_count_16 : decode cX9_count 16 = .ok (.iload_n 1, 1) := by decide +kernel
theorem dX9_count_17 : decode cX9_count 17 = .ok (.bipush 10, 2) := by decide +kernel
theorem dX9_count_19 : decode cX9_count 19 = .ok (.isub, 1) := by decide +kernel
theorem dX9_count_20 : decode cX9_count 20 = .ok (.iaload, 1) := by decide +kernel
theorem dX9_count_21 : decode cX9_count 21 = .ok (.ireturn, 1) := by decide +kernel
theorem dX9_count_22 : decode cX9_count 22 = .ok (.iload_n 1, 1) := by decide +kernel
theorem dX9_count_23 : decode cX9_count 23 = .ok (.tableswitch 155 0 9 #[53, 61, 69, 77, 85, 93, 109, 117, 125, 133], 53) := by decide +kernel
theorem dX9_count_76 : decode cX9_count 76 = .ok (.aload_n 0, 1) := by decide +kernel
theorem dX9_count_77 : decode cX9_count 77 = .ok (.getfield 10, 3) := by decide +kernel
theorem dX9_count_80 : decode cX9_count 80 = .ok (.getfield 115, 3) := by decide +kernel
theorem dX9_count_83 : decode cX9_count 83 = .ok (.ireturn, 1) := by decide +kernel
theorem dX9_count_84 : decode cX9_count 84 = .ok (.aload_n 0, 1) := by decide +kernel
theorem dX9_count_85 : decode cX9_count 85 = .ok (.getfield 10, 3) := by decide +kernel
theorem dX9_count_88 : decode cX9_count 88 = .ok (.getfield 236, 3) := by decide +kernel
theorem dX9_count_91 : decode cX9_count 91 = .ok (.ireturn, 1) := by decide +kernel
theorem dX9_count_92 : decode cX9_count 92 = .ok (.aload_n 0, 1) := by decide +kernel
theorem dX9_count_93 : decode cX9_count 93 = .ok (.getfield 10, 3) := by decide +kernel
theorem dX9_count_96 : decode cX9_count 96 = .ok (.getfield 124, 3) := by decide +kernel
theorem dX9_count_99 : decode cX9_count 99 = .ok (.ireturn, 1) := by decide +kernel
theorem dX9_count_100 : decode cX9_count 100 = .ok (.aload_n 0, 1) := by decide +kernel
theorem dX9_count_101 : decode cX9_count 101 = .ok (.getfield 10, 3) := by decide +kernel
theorem dX9_count_104 : decode cX9_count 104 = .ok (.getfield 245, 3) := by decide +kernel
theorem dX9_count_107 : decode cX9_count 107 = .ok (.ireturn, 1) := by decide +kernel
theorem dX9_count_108 : decode cX9_count 108 = .ok (.aload_n 0, 1) := by decide +kernel
theorem dX9_count_109 : decode cX9_count 109 = .ok (.getfield 10, 3) := by decide +kernel
theorem dX9_count_112 : decode cX9_count 112 = .ok (.getfield 248, 3) := by decide +kernel
theorem dX9_count_115 : decode cX9_count 115 = .ok (.ireturn, 1) := by decide +kernel
theorem dX9_count_116 : decode cX9_count 116 = .ok (.aload_n 0, 1) := by decide +kernel
theorem dX9_count_117 : decode cX9_count 117 = .ok (.getfield 10, 3) := by decide +kernel
theorem dX9_count_120 : decode cX9_count 120 = .ok (.getfield 251, 3) := by decide +kernel
theorem dX9_count_123 : decode cX9_count 123 = .ok (.ifCond .eq 7, 3) := by decide +kernel
theorem dX9_count_130 : decode cX9_count 130 = .ok (.iconst 0, 1) := by decide +kernel
theorem dX9_count_131 : decode cX9_count 131 = .ok (.ireturn, 1) := by decide +kernel
theorem dX9_count_132 : decode cX9_count 132 = .ok (.aload_n 0, 1) := by decide +kernel
theorem dX9_count_133 : decode cX9_count 133 = .ok (.getfield 10, 3) := by decide +kernel
theorem dX9_count_136 : decode cX9_count 136 = .ok (.getfield 146, 3) := by decide +kernel
theorem dX9_count_139 : decode cX9_count 139 = .ok (.ireturn, 1) := by decide +kernel
theorem dX9_count_140 : decode cX9_count 140 = .ok (.aload_n 0, 1) := by decide +kernel
theorem dX9_count_141 : decode cX9_count 141 = .ok (.getfield 10, 3) := by decide +kernel
theorem dX9_count_144 : decode cX9_count 144 = .ok (.getfield 192, 3) := by decide +kernel
theorem dX9_count_147 : decode cX9_count 147 = .ok (.ireturn, 1) := by decide +kernel
theorem dX9_count_148 : decode cX9_count 148 = .ok (.aload_n 0, 1) := by decide +kernel
theorem dX9_count_149 : decode cX9_count 149 = .ok (.getfield 10, 3) := by decide +kernel
theorem dX9_count_152 : decode cX9_count 152 = .ok (.getfield 98, 3) := by decide +kernel
theorem dX9_count_155 : decode cX9_count 155 = .ok (.ireturn, 1) := by decide +kernel
theorem dX9_count_156 : decode cX9_count 156 = .ok (.aload_n 0, 1) := by decide +kernel
theorem dX9_count_157 : decode cX9_count 157 = .ok (.getfield 47, 3) := by decide +kernel
theorem dX9_count_160 : decode cX9_count 160 = .ok (.aload_n 0, 1) := by decide +kernel
theorem dX9_count_161 : decode cX9_count 161 = .ok (.getfield 38, 3) := by decide +kernel
theorem dX9_count_164 : decode cX9_count 164 = .ok (.aload_n 0, 1) := by decide +kernel
theorem dX9_count_165 : decode cX9_count 165 = .ok (.getfield 10, 3) := by decide +kernel
theorem dX9_count_168 : decode cX9_count 168 = .ok (.getfield 118, 3) := by decide +kernel
theorem dX9_count_171 : decode cX9_count 171 = .ok (.invokevirtual 131, 3) := by decide +kernel
theorem dX9_count_174 : decode cX9_count 174 = .ok (.invokevirtual 254, 3) := by decide +kernel
theorem dX9_count_177 : decode cX9_count 177 = .ok (.ireturn, 1) := by decide +kernel
theorem dX9_count_178 : decode cX9_count 178 = .ok (.bipush (-9), 2) := by decide +kernel
theorem dX9_count_180 : decode cX9_count 180 = .ok (.ireturn, 1) := by decide +kernel
theorem dX9_refuse_0 : decode cX9_refuse 0 = .ok (.aload_n 0, 1) := by decide +kernel
theorem dX9_refuse_1 : decode cX9_refuse 1 = .ok (.getfield 90, 3) := by decide +kernel
theorem dX9_refuse_4 : decode cX9_refuse 4 = .ok (.iload_n 1, 1) := by decide +kernel
theorem dX9_refuse_5 : decode cX9_refuse 5 = .ok (.ineg, 1) := by decide +kernel
theorem dX9_refuse_6 : decode cX9_refuse 6 = .ok (.dup2, 1) := by decide +kernel
theorem dX9_refuse_7 : decode cX9_refuse 7 = .ok (.iaload, 1) := by decide +kernel
theorem dX9_refuse_8 : decode cX9_refuse 8 = .ok (.iconst 1, 1) := by decide +kernel
theorem dX9_refuse_9 : decode cX9_refuse 9 = .ok (.iadd, 1) := by decide +kernel
theorem dX9_refuse_10 : decode cX9_refuse 10 = .ok (.iastore, 1) := by decide +kernel
theorem dX9_refuse_11 : decode cX9_refuse 11 = .ok (.iload_n 1, 1) := by decide +kernel
theorem dX9_refuse_12 : decode cX9_refuse 12 = .ok (.ireturn, 1) := by decide +kernel
theorem dX9_settle_0 : decode cX9_settle 0 = .ok (.aload_n 0, 1) := by decide +kernel
theorem dX9_settle_1 : decode cX9_settle 1 = .ok (.getfield 38, 3) := by decide +kernel
theorem dX9_settle_4 : decode cX9_settle 4 = .ok (.aload_n 0, 1) := by decide +kernel
theorem dX9_settle_5 : decode cX9_settle 5 = .ok (.getfield 10, 3) := by decide +kernel
theorem dX9_settle_8 : decode cX9_settle 8 = .ok (.getfield 115, 3) := by decide +kernel
theorem dX9_settle_11 : decode cX9_settle 11 = .ok (.invokevirtual 257, 3) := by decide +kernel
theorem dX9_settle_14 : decode cX9_settle 14 = .ok (.aload_n 0, 1) := by decide +kernel
theorem dX9_settle_15 : decode cX9_settle 15 = .ok (.getfield 47, 3) := by decide +kernel
theorem dX9_settle_18 : decode cX9_settle 18 = .ok (.invokevirtual 261, 3) := by decide +kernel
theorem dX9_settle_21 : decode cX9_settle 21 = .ok (.aload_n 0, 1) := by decide +kernel
theorem dX9_settle_22 : decode cX9_settle 22 = .ok (.getfield 59, 3) := by decide +kernel
theorem dX9_settle_25 : decode cX9_settle 25 = .ok (.invokevirtual 262, 3) := by decide +kernel
theorem dX9_settle_28 : decode cX9_settle 28 = .ok (.return_, 1) := by decide +kernel
theorem dX9_heapState_0 : decode cX9_heapState 0 = .ok (.aload_n 0, 1) := by decide +kernel
theorem dX9_heapState_1 : decode cX9_heapState 1 = .ok (.getfield 38, 3) := by decide +kernel
theorem dX9_heapState_4 : decode cX9_heapState 4 = .ok (.aload_n 0, 1) := by decide +kernel
theorem dX9_heapState_5 : decode cX9_heapState 5 = .ok (.getfield 10, 3) := by decide +kernel
theorem dX9_heapState_8 : decode cX9_heapState 8 = .ok (.getfield 118, 3) := by decide +kernel
theorem dX9_heapState_11 : decode cX9_heapState 11 = .ok (.invokevirtual 202, 3) := by decide +kernel
theorem dX9_heapState_14 : decode cX9_heapState 14 = .ok (.ireturn, 1) := by decide +kernel
theorem dX9_orNone_0 : decode cX9_orNone 0 = .ok (.iload_n 0, 1) := by decide +kernel
theorem dX9_orNone_1 : decode cX9_orNone 1 = .ok (.ifCond .ge 8, 3) := by decide +kernel
theorem dX9_orNone_9 : decode cX9_orNone 9 = .ok (.iload_n 0, 1) := by decide +kernel
theorem dX9_orNone_10 : decode cX9_orNone 10 = .ok (.ireturn, 1) := by decide +kernel
theorem dJ6_bitCount_0f7a4_0 : decode cJ6_bitCount_0f7a4 0 = .ok (.iload_n 0, 1) := by decide +kernel
theorem dJ6_bitCount_0f7a4_1 : decode cJ6_bitCount_0f7a4 1 = .ok (.iload_n 0, 1) := by decide +kernel
theorem dJ6_bitCount_0f7a4_2 : decode cJ6_bitCount_0f7a4 2 = .ok (.iconst 1, 1) := by decide +kernel
theorem dJ6_bitCount_0f7a4_3 : decode cJ6_bitCount_0f7a4 3 = .ok (.iushr, 1) := by decide +kernel
theorem dJ6_bitCount_0f7a4_4 : decode cJ6_bitCount_0f7a4 4 = .ok (.ldc_w 265, 3) := by decide +kernel
theorem dJ6_bitCount_0f7a4_7 : decode cJ6_bitCount_0f7a4 7 = .ok (.iand, 1) := by decide +kernel
theorem dJ6_bitCount_0f7a4_8 : decode cJ6_bitCount_0f7a4 8 = .ok (.isub, 1) := by decide +kernel
theorem dJ6_bitCount_0f7a4_9 : decode cJ6_bitCount_0f7a4 9 = .ok (.istore_n 0, 1) := by decide +kernel
theorem dJ6_bitCount_0f7a4_10 : decode cJ6_bitCount_0f7a4 10 = .ok (.iload_n 0, 1) := by decide +kernel
theorem dJ6_bitCount_0f7a4_11 : decode cJ6_bitCount_0f7a4 11 = .ok (.ldc_w 266, 3) := by decide +kernel
theorem dJ6_bitCount_0f7a4_14 : decode cJ6_bitCount_0f7a4 14 = .ok (.iand, 1) := by decide +kernel
theorem dJ6_bitCount_0f7a4_15 : decode cJ6_bitCount_0f7a4 15 = .ok (.iload_n 0, 1) := by decide +kernel
theorem dJ6_bitCount_0f7a4_16 : decode cJ6_bitCount_0f7a4 16 = .ok (.iconst 2, 1) := by decide +kernel
theorem dJ6_bitCount_0f7a4_17 : decode cJ6_bitCount_0f7a4 17 = .ok (.iushr, 1) := by decide +kernel
theorem dJ6_bitCount_0f7a4_18 : decode cJ6_bitCount_0f7a4 18 = .ok (.ldc_w 266, 3) := by decide +kernel
theorem dJ6_bitCount_0f7a4_21 : decode cJ6_bitCount_0f7a4 21 = .ok (.iand, 1) := by decide +kernel
theorem dJ6_bitCount_0f7a4_22 : decode cJ6_bitCount_0f7a4 22 = .ok (.iadd, 1) := by decide +kernel
theorem dJ6_bitCount_0f7a4_23 : decode cJ6_bitCount_0f7a4 23 = .ok (.istore_n 0, 1) := by decide +kernel
theorem dJ6_bitCount_0f7a4_24 : decode cJ6_bitCount_0f7a4 24 = .ok (.iload_n 0, 1) := by decide +kernel
theorem dJ6_bitCount_0f7a4_25 : decode cJ6_bitCount_0f7a4 25 = .ok (.iload_n 0, 1) := by decide +kernel
theorem dJ6_bitCount_0f7a4_26 : decode cJ6_bitCount_0f7a4 26 = .ok (.iconst 4, 1) := by decide +kernel
theorem dJ6_bitCount_0f7a4_27 : decode cJ6_bitCount_0f7a4 27 = .ok (.iushr, 1) := by decide +kernel
theorem dJ6_bitCount_0f7a4_28 : decode cJ6_bitCount_0f7a4 28 = .ok (.iadd, 1) := by decide +kernel
theorem dJ6_bitCount_0f7a4_29 : decode cJ6_bitCount_0f7a4 29 = .ok (.ldc_w 267, 3) := by decide +kernel
theorem dJ6_bitCount_0f7a4_32 : decode cJ6_bitCount_0f7a4 32 = .ok (.iand, 1) := by decide +kernel
theorem dJ6_bitCount_0f7a4_33 : decode cJ6_bitCount_0f7a4 33 = .ok (.istore_n 0, 1) := by decide +kernel
theorem dJ6_bitCount_0f7a4_34 : decode cJ6_bitCount_0f7a4 34 = .ok (.iload_n 0, 1) := by decide +kernel
theorem dJ6_bitCount_0f7a4_35 : decode cJ6_bitCount_0f7a4 35 = .ok (.iload_n 0, 1) := by decide +kernel
theorem dJ6_bitCount_0f7a4_36 : decode cJ6_bitCount_0f7a4 36 = .ok (.bipush 8, 2) := by decide +kernel
theorem dJ6_bitCount_0f7a4_38 : decode cJ6_bitCount_0f7a4 38 = .ok (.iushr, 1) := by decide +kernel
theorem dJ6_bitCount_0f7a4_39 : decode cJ6_bitCount_0f7a4 39 = .ok (.iadd, 1) := by decide +kernel
theorem dJ6_bitCount_0f7a4_40 : decode cJ6_bitCount_0f7a4 40 = .ok (.istore_n 0, 1) := by decide +kernel
theorem dJ6_bitCount_0f7a4_41 : decode cJ6_bitCount_0f7a4 41 = .ok (.iload_n 0, 1) := by decide +kernel
theorem dJ6_bitCount_0f7a4_42 : decode cJ6_bitCount_0f7a4 42 = .ok (.iload_n 0, 1) := by decide +kernel
theorem dJ6_bitCount_0f7a4_43 : decode cJ6_bitCount_0f7a4 43 = .ok (.bipush 16, 2) := by decide +kernel
theorem dJ6_bitCount_0f7a4_45 : decode cJ6_bitCount_0f7a4 45 = .ok (.iushr, 1) := by decide +kernel
theorem dJ6_bitCount_0f7a4_46 : decode cJ6_bitCount_0f7a4 46 = .ok (.iadd, 1) := by decide +kernel
theorem dJ6_bitCount_0f7a4_47 : decode cJ6_bitCount_0f7a4 47 = .ok (.istore_n 0, 1) := by decide +kernel
theorem dJ6_bitCount_0f7a4_48 : decode cJ6_bitCount_0f7a4 48 = .ok (.iload_n 0, 1) := by decide +kernel
theorem dJ6_bitCount_0f7a4_49 : decode cJ6_bitCount_0f7a4 49 = .ok (.bipush 63, 2) := by decide +kernel
theorem dJ6_bitCount_0f7a4_51 : decode cJ6_bitCount_0f7a4 51 = .ok (.iand, 1) := by decide +kernel
theorem dJ6_bitCount_0f7a4_52 : decode cJ6_bitCount_0f7a4 52 = .ok (.ireturn, 1) := by decide +kernel
