theorem d_Se_countClashes_0 : decode b_Se_countClashes 0 = .ok (.aload_n 0, 1) := by decide +kernel
theorem d_Se_countClashes_1 : decode b_Se_countClashes 1 = .ok (.iconst (-1), 1) := by decide +kernel
theorem d_Se_countClashes_2 : decode b_Se_countClashes 2 = .ok (.invokevirtual 51, 3) := by decide +kernel
theorem d_Se_countClashes_5 : decode b_Se_countClashes 5 = .ok (.pop, 1) := by decide +kernel
theorem d_Se_countClashes_6 : decode b_Se_countClashes 6 = .ok (.aload_n 0, 1) := by decide +kernel
theorem d_Se_countClashes_7 : decode b_Se_countClashes 7 = .ok (.getfield 15, 3) := by decide +kernel
theorem d_Se_countClashes_10 : decode b_Se_countClashes 10 = .ok (.ireturn, 1) := by decide +kernel
theorem d_Se_seekClash_0 : decode b_Se_seekClash 0 = .ok (.aload_n 0, 1) := by decide +kernel
theorem d_Se_seekClash_1 : decode b_Se_seekClash 1 = .ok (.iload_n 1, 1) := by decide +kernel
theorem d_Se_seekClash_2 : decode b_Se_seekClash 2 = .ok (.putfield 9, 3) := by decide +kernel
theorem d_Se_seekClash_5 : decode b_Se_seekClash 5 = .ok (.aload_n 0, 1) := by decide +kernel
theorem d_Se_seekClash_6 : decode b_Se_seekClash 6 = .ok (.iconst 0, 1) := by decide +kernel
theorem d_Se_seekClash_7 : decode b_Se_seekClash 7 = .ok (.putfield 15, 3) := by decide +kernel
theorem d_Se_seekClash_10 : decode b_Se_seekClash 10 = .ok (.iconst 0, 1) := by decide +kernel
theorem d_Se_seekClash_11 : decode b_Se_seekClash 11 = .ok (.istore_n 2, 1) := by decide +kernel
theorem d_Se_seekClash_12 : decode b_Se_seekClash 12 = .ok (.iload_n 2, 1) := by decide +kernel
theorem d_Se_seekClash_13 : decode b_Se_seekClash 13 = .ok (.iconst 3, 1) := by decide +kernel
theorem d_Se_seekClash_14 : decode b_Se_seekClash 14 = .ok (.if_icmp .ge 25, 3) := by decide +kernel
theorem d_Se_seekClash_17 : decode b_Se_seekClash 17 = .ok (.aload_n 0, 1) := by decide +kernel
theorem d_Se_seekClash_18 : decode b_Se_seekClash 18 = .ok (.bipush 21, 2) := by decide +kernel
theorem d_Se_seekClash_20 : decode b_Se_seekClash 20 = .ok (.iload_n 2, 1) := by decide +kernel
theorem d_Se_seekClash_21 : decode b_Se_seekClash 21 = .ok (.iadd, 1) := by decide +kernel
theorem d_Se_seekClash_22 : decode b_Se_seekClash 22 = .ok (.iconst 0, 1) := by decide +kernel
theorem d_Se_seekClash_23 : decode b_Se_seekClash 23 = .ok (.iconst (-1), 1) := by decide +kernel
theorem d_Se_seekClash_24 : decode b_Se_seekClash 24 = .ok (.lconst 0, 1) := by decide +kernel
theorem d_Se_seekClash_25 : decode b_Se_seekClash 25 = .ok (.invokestatic 47, 3) := by decide +kernel
theorem d_Se_seekClash_28 : decode b_Se_seekClash 28 = .ok (.ifCond .eq 5, 3) := by decide +kernel
theorem d_Se_seekClash_31 : decode b_Se_seekClash 31 = .ok (.iconst 1, 1) := by decide +kernel
theorem d_Se_seekClash_32 : decode b_Se_seekClash 32 = .ok (.ireturn, 1) := by decide +kernel
theorem d_Se_seekClash_33 : decode b_Se_seekClash 33 = .ok (.iinc 2 1, 3) := by decide +kernel
theorem d_Se_seekClash_36 : decode b_Se_seekClash 36 = .ok (.goto (-24), 3) := by decide +kernel
theorem d_Se_seekClash_39 : decode b_Se_seekClash 39 = .ok (.iconst 0, 1) := by decide +kernel
theorem d_Se_seekClash_40 : decode b_Se_seekClash 40 = .ok (.ireturn, 1) := by decide +kernel
theorem d_Se_meet_0 : decode b_Se_meet 0 = .ok (.aload_n 0, 1) := by decide +kernel
theorem d_Se_meet_1 : decode b_Se_meet 1 = .ok (.getfield 15, 3) := by decide +kernel
theorem d_Se_meet_4 : decode b_Se_meet 4 = .ok (.aload_n 0, 1) := by decide +kernel
theorem d_Se_meet_5 : decode b_Se_meet 5 = .ok (.getfield 9, 3) := by decide +kernel
theorem d_Se_meet_8 : decode b_Se_meet 8 = .ok (.if_icmp .ne 7, 3) := by decide +kernel
theorem d_Se_meet_11 : decode b_Se_meet 11 = .ok (.iconst 1, 1) := by decide +kernel
theorem d_Se_meet_12 : decode b_Se_meet 12 = .ok (.goto 4, 3) := by decide +kernel
theorem d_Se_meet_15 : decode b_Se_meet 15 = .ok (.iconst 0, 1) := by decide +kernel
theorem d_Se_meet_16 : decode b_Se_meet 16 = .ok (.istore 4, 2) := by decide +kernel
theorem d_Se_meet_18 : decode b_Se_meet 18 = .ok (.iload 4, 2) := by decide +kernel
theorem d_Se_meet_20 : decode b_Se_meet 20 = .ok (.ifCond .eq 8, 3) := by decide +kernel
theorem d_Se_meet_23 : decode b_Se_meet 23 = .ok (.aload_n 0, 1) := by decide +kernel
theorem d_Se_meet_24 : decode b_Se_meet 24 = .ok (.iload_n 1, 1) := by decide +kernel
theorem d_Se_meet_25 : decode b_Se_meet 25 = .ok (.putfield 18, 3) := by decide +kernel
theorem d_Se_meet_28 : decode b_Se_meet 28 = .ok (.aload_n 0, 1) := by decide +kernel
theorem d_Se_meet_29 : decode b_Se_meet 29 = .ok (.dup, 1) := by decide +kernel
theorem d_Se_meet_30 : decode b_Se_meet 30 = .ok (.getfield 15, 3) := by decide +kernel
theorem d_Se_meet_33 : decode b_Se_meet 33 = .ok (.iconst 1, 1) := by decide +kernel
theorem d_Se_meet_34 : decode b_Se_meet 34 = .ok (.iadd, 1) := by decide +kernel
theorem d_Se_meet_35 : decode b_Se_meet 35 = .ok (.putfield 15, 3) := by decide +kernel
theorem d_Se_meet_38 : decode b_Se_meet 38 = .ok (.iload 4, 2) := by decide +kernel
theorem d_Se_meet_40 : decode b_Se_meet 40 = .ok (.ireturn, 1) := by decide +kernel
theorem d_Se_foundPremise_0 : decode b_Se_foundPremise 0 = .ok (.iload_n 1, 1) := by decide +kernel
theorem d_Se_foundPremise_1 : decode b_Se_foundPremise 1 = .ok (.iconst 1, 1) := by decide +kernel
theorem d_Se_foundPremise_2 : decode b_Se_foundPremise 2 = .ok (.if_icmp .lt 19, 3) := by decide +kernel
theorem d_Se_foundPremise_5 : decode b_Se_foundPremise 5 = .ok (.iload_n 1, 1) := by decide +kernel
theorem d_Se_foundPremise_6 : decode b_Se_foundPremise 6 = .ok (.aload_n 0, 1) := by decide +kernel
theorem d_Se_foundPremise_7 : decode b_Se_foundPremise 7 = .ok (.getfield 18, 3) := by decide +kernel
theorem d_Se_foundPremise_10 : decode b_Se_foundPremise 10 = .ok (.invokestatic 55, 3) := by decide +kernel
theorem d_Se_foundPremise_13 : decode b_Se_foundPremise 13 = .ok (.if_icmp .gt 8, 3) := by decide +kernel
theorem d_Se_foundPremise_16 : decode b_Se_foundPremise 16 = .ok (.iload_n 1, 1) := by decide +kernel
theorem d_Se_foundPremise_17 : decode b_Se_foundPremise 17 = .ok (.iconst 4, 1) := by decide +kernel
theorem d_Se_foundPremise_18 : decode b_Se_foundPremise 18 = .ok (.if_icmp .le 6, 3) := by decide +kernel
theorem d_Se_foundPremise_21 : decode b_Se_foundPremise 21 = .ok (.bipush (-2), 2) := by decide +kernel
theorem d_Se_foundPremise_23 : decode b_Se_foundPremise 23 = .ok (.ireturn, 1) := by decide +kernel
theorem d_Se_foundPremise_24 : decode b_Se_foundPremise 24 = .ok (.aload_n 0, 1) := by decide +kernel
theorem d_Se_foundPremise_25 : decode b_Se_foundPremise 25 = .ok (.getfield 58, 3) := by decide +kernel
theorem d_Se_foundPremise_28 : decode b_Se_foundPremise 28 = .ok (.iload_n 1, 1) := by decide +kernel
theorem d_Se_foundPremise_29 : decode b_Se_foundPremise 29 = .ok (.iconst 1, 1) := by decide +kernel
theorem d_Se_foundPremise_30 : decode b_Se_foundPremise 30 = .ok (.isub, 1) := by decide +kernel
theorem d_Se_foundPremise_31 : decode b_Se_foundPremise 31 = .ok (.iaload, 1) := by decide +kernel
theorem d_Se_foundPremise_32 : decode b_Se_foundPremise 32 = .ok (.ireturn, 1) := by decide +kernel
theorem d_Tb_premiseCount_0 : decode b_Tb_premiseCount 0 = .ok (.iload_n 0, 1) := by decide +kernel
theorem d_Tb_premiseCount_1 : decode b_Tb_premiseCount 1 = .ok (.ifCond .lt 19, 3) := by decide +kernel
theorem d_Tb_premiseCount_4 : decode b_Tb_premiseCount 4 = .ok (.iload_n 0, 1) := by decide +kernel
theorem d_Tb_premiseCount_5 : decode b_Tb_premiseCount 5 = .ok (.getstatic 11, 3) := by decide +kernel
theorem d_Tb_premiseCount_8 : decode b_Tb_premiseCount 8 = .ok (.arraylength, 1) := by decide +kernel
theorem d_Tb_premiseCount_9 : decode b_Tb_premiseCount 9 = .ok (.if_icmp .ge 11, 3) := by decide +kernel
theorem d_Tb_premiseCount_12 : decode b_Tb_premiseCount 12 = .ok (.getstatic 11, 3) := by decide +kernel
theorem d_Tb_premiseCount_15 : decode b_Tb_premiseCount 15 = .ok (.iload_n 0, 1) := by decide +kernel
theorem d_Tb_premiseCount_16 : decode b_Tb_premiseCount 16 = .ok (.iaload, 1) := by decide +kernel
theorem d_Tb_premiseCount_17 : decode b_Tb_premiseCount 17 = .ok (.goto 4, 3) := by decide +kernel
theorem d_Tb_premiseCount_20 : decode b_Tb_premiseCount 20 = .ok (.iconst 0, 1) := by decide +kernel
theorem d_Tb_premiseCount_21 : decode b_Tb_premiseCount 21 = .ok (.ireturn, 1) := by decide +kernel
theorem d_Tb_premiseAt_0 : decode b_Tb_premiseAt 0 = .ok (.bipush 12, 2) := by decide +kernel
theorem d_Tb_premiseAt_2 : decode b_Tb_premiseAt 2 = .ok (.iload_n 0, 1) := by decide +kernel
theorem d_Tb_premiseAt_3 : decode b_Tb_premiseAt 3 = .ok (.imul, 1) := by decide +kernel
theorem d_Tb_premiseAt_4 : decode b_Tb_premiseAt 4 = .ok (.iconst 3, 1) := by decide +kernel
theorem d_Tb_premiseAt_5 : decode b_Tb_premiseAt 5 = .ok (.iload_n 1, 1) := by decide +kernel
theorem d_Tb_premiseAt_6 : decode b_Tb_premiseAt 6 = .ok (.imul, 1) := by decide +kernel
theorem d_Tb_premiseAt_7 : decode b_Tb_premiseAt 7 = .ok (.iadd, 1) := by decide +kernel
theorem d_Tb_premiseAt_8 : decode b_Tb_premiseAt 8 = .ok (.ireturn, 1) := by decide +kernel
theorem d_Tb_givenAt_0 : decode b_Tb_givenAt 0 = .ok (.iconst 3, 1) := by decide +kernel
theorem d_Tb_givenAt_1 : decode b_Tb_givenAt 1 = .ok (.iload_n 0, 1) := by decide +kernel
theorem d_Tb_givenAt_2 : decode b_Tb_givenAt 2 = .ok (.imul, 1) := by decide +kernel
theorem d_Tb_givenAt_3 : decode b_Tb_givenAt 3 = .ok (.ireturn, 1) := by decide +kernel
theorem d_Tb_givenCode_0 : decode b_Tb_givenCode 0 = .ok (.iload_n 0, 1) := by decide +kernel
theorem d_Tb_givenCode_1 : decode b_Tb_givenCode 1 = .ok (.invokestatic 15, 3) := by decide +kernel
theorem d_Tb_givenCode_4 : decode b_Tb_givenCode 4 = .ok (.istore_n 3, 1) := by decide +kernel
theorem d_Tb_givenCode_5 : decode b_Tb_givenCode 5 = .ok (.getstatic 19, 3) := by decide +kernel
theorem d_Tb_givenCode_8 : decode b_Tb_givenCode 8 = .ok (.iload_n 3, 1) := by decide +kernel
theorem d_Tb_givenCode_9 : decode b_Tb_givenCode 9 = .ok (.iaload, 1) := by decide +kernel
theorem d_Tb_givenCode_10 : decode b_Tb_givenCode 10 = .ok (.lload_n 1, 1) := by decide +kernel
theorem d_Tb_givenCode_11 : decode b_Tb_givenCode 11 = .ok (.invokestatic 22, 3) := by decide +kernel
theorem d_Tb_givenCode_14 : decode b_Tb_givenCode 14 = .ok (.getstatic 19, 3) := by decide +kernel
theorem d_Tb_givenCode_17 : decode b_Tb_givenCode 17 = .ok (.iload_n 3, 1) := by decide +kernel
theorem d_Tb_givenCode_18 : decode b_Tb_givenCode 18 = .ok (.iconst 1, 1) := by decide +kernel
theorem d_Tb_givenCode_19 : decode b_Tb_givenCode 19 = .ok (.iadd, 1) := by decide +kernel
theorem d_Tb_givenCode_20 : decode b_Tb_givenCode 20 = .ok (.iaload, 1) := by decide +kernel
theorem d_Tb_givenCode_21 : decode b_Tb_givenCode 21 = .ok (.lload_n 1, 1) := by decide +kernel
theorem d_Tb_givenCode_22 : decode b_Tb_givenCode 22 = .ok (.invokestatic 22, 3) := by decide +kernel
theorem d_Tb_givenCode_25 : decode b_Tb_givenCode 25 = .ok (.getstatic 19, 3) := by decide +kernel
theorem d_Tb_givenCode_28 : decode b_Tb_givenCode 28 = .ok (.iload_n 3, 1) := by decide +kernel
theorem d_Tb_givenCode_29 : decode b_Tb_givenCode 29 = .ok (.iconst 2, 1) := by decide +kernel
theorem d_Tb_givenCode_30 : decode b_Tb_givenCode 30 = .ok (.iadd, 1) := by decide +kernel
theorem d_Tb_givenCode_31 : decode b_Tb_givenCode 31 = .ok (.iaload, 1) := by decide +kernel
theorem d_Tb_givenCode_32 : decode b_Tb_givenCode 32 = .ok (.lload_n 1, 1) := by decide +kernel
theorem d_Tb_givenCode_33 : decode b_Tb_givenCode 33 = .ok (.invokestatic 22, 3) := by decide +kernel
theorem d_Tb_givenCode_36 : decode b_Tb_givenCode 36 = .ok (.invokestatic 28, 3) := by decide +kernel
theorem d_Tb_givenCode_39 : decode b_Tb_givenCode 39 = .ok (.ireturn, 1) := by decide +kernel
theorem d_Tr_init_0 : decode b_Tr_init 0 = .ok (.aload_n 0, 1) := by decide +kernel
theorem d_Tr_init_1 : decode b_Tr_init 1 = .ok (.invokespecial 3, 3) := by decide +kernel
theorem d_Tr_init_4 : decode b_Tr_init 4 = .ok (.aload_n 0, 1) := by decide +kernel
theorem d_Tr_init_5 : decode b_Tr_init 5 = .ok (.sipush 1024, 3) := by decide +kernel
theorem d_Tr_init_8 : decode b_Tr_init 8 = .ok (.newarray .int, 2) := by decide +kernel
theorem d_Tr_init_10 : decode b_Tr_init 10 = .ok (.putfield 9, 3) := by decide +kernel
theorem d_Tr_init_13 : decode b_Tr_init 13 = .ok (.aload_n 0, 1) := by decide +kernel
theorem d_Tr_init_14 : decode b_Tr_init 14 = .ok (.bipush 32, 2) := by decide +kernel
theorem d_Tr_init_16 : decode b_Tr_init 16 = .ok (.newarray .int, 2) := by decide +kernel
theorem d_Tr_init_18 : decode b_Tr_init 18 = .ok (.putfield 15, 3) := by decide +kernel
theorem d_Tr_init_21 : decode b_Tr_init 21 = .ok (.aload_n 0, 1) := by decide +kernel
theorem d_Tr_init_22 : decode b_Tr_init 22 = .ok (.bipush 32, 2) := by decide +kernel
theorem d_Tr_init_24 : decode b_Tr_init 24 = .ok (.newarray .int, 2) := by decide +kernel
theorem d_Tr_init_26 : decode b_Tr_init 26 = .ok (.putfield 18, 3) := by decide +kernel
theorem d_Tr_init_29 : decode b_Tr_init 29 = .ok (.aload_n 0, 1) := by decide +kernel
theorem d_Tr_init_30 : decode b_Tr_init 30 = .ok (.iconst 0, 1) := by decide +kernel
theorem d_Tr_init_31 : decode b_Tr_init 31 = .ok (.putfield 21, 3) := by decide +kernel
theorem d_Tr_init_34 : decode b_Tr_init 34 = .ok (.return_, 1) := by decide +kernel
theorem d_Tr_clear_0 : decode b_Tr_clear 0 = .ok (.aload_n 0, 1) := by decide +kernel
theorem d_Tr_clear_1 : decode b_Tr_clear 1 = .ok (.getfield 9, 3) := by decide +kernel
theorem d_Tr_clear_4 : decode b_Tr_clear 4 = .ok (.iconst 0, 1) := by decide +kernel
theorem d_Tr_clear_5 : decode b_Tr_clear 5 = .ok (.invokestatic 25, 3) := by decide +kernel
theorem d_Tr_clear_8 : decode b_Tr_clear 8 = .ok (.aload_n 0, 1) := by decide +kernel
theorem d_Tr_clear_9 : decode b_Tr_clear 9 = .ok (.getfield 15, 3) := by decide +kernel
theorem d_Tr_clear_12 : decode b_Tr_clear 12 = .ok (.iconst 0, 1) := by decide +kernel
theorem d_Tr_clear_13 : decode b_Tr_clear 13 = .ok (.invokestatic 25, 3) := by decide +kernel
theorem d_Tr_clear_16 : decode b_Tr_clear 16 = .ok (.aload_n 0, 1) := by decide +kernel
theorem d_Tr_clear_17 : decode b_Tr_clear 17 = .ok (.getfield 18, 3) := by decide +kernel
theorem d_Tr_clear_20 : decode b_Tr_clear 20 = .ok (.iconst 0, 1) := by decide +kernel
theorem d_Tr_clear_21 : decode b_Tr_clear 21 = .ok (.invokestatic 25, 3) := by decide +kernel
theorem d_Tr_clear_24 : decode b_Tr_clear 24 = .ok (.aload_n 0, 1) := by decide +kernel
theorem d_Tr_clear_25 : decode b_Tr_clear 25 = .ok (.iconst 0, 1) := by decide +kernel
theorem d_Tr_clear_26 : decode b_Tr_clear 26 = .ok (.putfield 21, 3) := by decide +kernel
theorem d_Tr_clear_29 : decode b_Tr_clear 29 = .ok (.return_, 1) := by decide +kernel
theorem d_Tr_put_0 : decode b_Tr_put 0 = .ok (.iload_n 1, 1) := by decide +kernel
theorem d_Tr_put_1 : decode b_Tr_put 1 = .ok (.ifCond .lt 9, 3) := by decide +kernel
theorem d_Tr_put_4 : decode b_Tr_put 4 = .ok (.iload_n 1, 1) := by decide +kernel
theorem d_Tr_put_5 : decode b_Tr_put 5 = .ok (.ldc 31, 2) := by decide +kernel
theorem d_Tr_put_7 : decode b_Tr_put 7 = .ok (.if_icmp .lt 4, 3) := by decide +kernel
theorem d_Tr_put_10 : decode b_Tr_put 10 = .ok (.return_, 1) := by decide +kernel
theorem d_Tr_put_11 : decode b_Tr_put 11 = .ok (.iload_n 1, 1) := by decide +kernel
theorem d_Tr_put_12 : decode b_Tr_put 12 = .ok (.bipush 32, 2) := by decide +kernel
theorem d_Tr_put_14 : decode b_Tr_put 14 = .ok (.idiv, 1) := by decide +kernel
theorem d_Tr_put_15 : decode b_Tr_put 15 = .ok (.bipush 32, 2) := by decide +kernel
theorem d_Tr_put_17 : decode b_Tr_put 17 = .ok (.idiv, 1) := by decide +kernel
theorem d_Tr_put_18 : decode b_Tr_put 18 = .ok (.istore_n 2, 1) := by decide +kernel
theorem d_Tr_put_19 : decode b_Tr_put 19 = .ok (.iload_n 1, 1) := by decide +kernel
theorem d_Tr_put_20 : decode b_Tr_put 20 = .ok (.bipush 32, 2) := by decide +kernel
theorem d_Tr_put_22 : decode b_Tr_put 22 = .ok (.idiv, 1) := by decide +kernel
theorem d_Tr_put_23 : decode b_Tr_put 23 = .ok (.bipush 32, 2) := by decide +kernel
theorem d_Tr_put_25 : decode b_Tr_put 25 = .ok (.irem, 1) := by decide +kernel
theorem d_Tr_put_26 : decode b_Tr_put 26 = .ok (.istore_n 3, 1) := by decide +kernel
theorem d_Tr_put_27 : decode b_Tr_put 27 = .ok (.aload_n 0, 1) := by decide +kernel
theorem d_Tr_put_28 : decode b_Tr_put 28 = .ok (.getfield 9, 3) := by decide +kernel
theorem d_Tr_put_31 : decode b_Tr_put 31 = .ok (.iload_n 1, 1) := by decide +kernel
theorem d_Tr_put_32 : decode b_Tr_put 32 = .ok (.bipush 32, 2) := by decide +kernel
theorem d_Tr_put_34 : decode b_Tr_put 34 = .ok (.idiv, 1) := by decide +kernel
theorem d_Tr_put_35 : decode b_Tr_put 35 = .ok (.dup2, 1) := by decide +kernel
theorem d_Tr_put_36 : decode b_Tr_put 36 = .ok (.iaload, 1) := by decide +kernel
theorem d_Tr_put_37 : decode b_Tr_put 37 = .ok (.iconst 1, 1) := by decide +kernel
theorem d_Tr_put_38 : decode b_Tr_put 38 = .ok (.iload_n 1, 1) := by decide +kernel
theorem d_Tr_put_39 : decode b_Tr_put 39 = .ok (.bipush 32, 2) := by decide +kernel
theorem d_Tr_put_41 : decode b_Tr_put 41 = .ok (.irem, 1) := by decide +kernel
theorem d_Tr_put_42 : decode b_Tr_put 42 = .ok (.ishl, 1) := by decide +kernel
theorem d_Tr_put_43 : decode b_Tr_put 43 = .ok (.ior, 1) := by decide +kernel
theorem d_Tr_put_44 : decode b_Tr_put 44 = .ok (.iastore, 1) := by decide +kernel
theorem d_Tr_put_45 : decode b_Tr_put 45 = .ok (.aload_n 0, 1) := by decide +kernel
theorem d_Tr_put_46 : decode b_Tr_put 46 = .ok (.getfield 15, 3) := by decide +kernel
theorem d_Tr_put_49 : decode b_Tr_put 49 = .ok (.iload_n 3, 1) := by decide +kernel
theorem d_Tr_put_50 : decode b_Tr_put 50 = .ok (.dup2, 1) := by decide +kernel
theorem d_Tr_put_51 : decode b_Tr_put 51 = .ok (.iaload, 1) := by decide +kernel
theorem d_Tr_put_52 : decode b_Tr_put 52 = .ok (.iconst 1, 1) := by decide +kernel
theorem d_Tr_put_53 : decode b_Tr_put 53 = .ok (.iload_n 2, 1) := by decide +kernel
theorem d_Tr_put_54 : decode b_Tr_put 54 = .ok (.ishl, 1) := by decide +kernel
theorem d_Tr_put_55 : decode b_Tr_put 55 = .ok (.ior, 1) := by decide +kernel
theorem d_Tr_put_56 : decode b_Tr_put 56 = .ok (.iastore, 1) := by decide +kernel
theorem d_Tr_put_57 : decode b_Tr_put 57 = .ok (.aload_n 0, 1) := by decide +kernel
theorem d_Tr_put_58 : decode b_Tr_put 58 = .ok (.getfield 18, 3) := by decide +kernel
theorem d_Tr_put_61 : decode b_Tr_put 61 = .ok (.iload_n 2, 1) := by decide +kernel
theorem d_Tr_put_62 : decode b_Tr_put 62 = .ok (.dup2, 1) := by decide +kernel
theorem d_Tr_put_63 : decode b_Tr_put 63 = .ok (.iaload, 1) := by decide +kernel
theorem d_Tr_put_64 : decode b_Tr_put 64 = .ok (.iconst 1, 1) := by decide +kernel
theorem d_Tr_put_65 : decode b_Tr_put 65 = .ok (.iload_n 3, 1) := by decide +kernel
theorem d_Tr_put_66 : decode b_Tr_put 66 = .ok (.ishl, 1) := by decide +kernel
theorem d_Tr_put_67 : decode b_Tr_put 67 = .ok (.ior, 1) := by decide +kernel
theorem d_Tr_put_68 : decode b_Tr_put 68 = .ok (.iastore, 1) := by decide +kernel
theorem d_Tr_put_69 : decode b_Tr_put 69 = .ok (.aload_n 0, 1) := by decide +kernel
theorem d_Tr_put_70 : decode b_Tr_put 70 = .ok (.dup, 1) := by decide +kernel
theorem d_Tr_put_71 : decode b_Tr_put 71 = .ok (.getfield 21, 3) := by decide +kernel
theorem d_Tr_put_74 : decode b_Tr_put 74 = .ok (.iconst 1, 1) := by decide +kernel
theorem d_Tr_put_75 : decode b_Tr_put 75 = .ok (.iload_n 2, 1) := by decide +kernel
theorem d_Tr_put_76 : decode b_Tr_put 76 = .ok (.ishl, 1) := by decide +kernel
theorem d_Tr_put_77 : decode b_Tr_put 77 = .ok (.ior, 1) := by decide +kernel
theorem d_Tr_put_78 : decode b_Tr_put 78 = .ok (.putfield 21, 3) := by decide +kernel
theorem d_Tr_put_81 : decode b_Tr_put 81 = .ok (.return_, 1) := by decide +kernel
theorem d_Tr_has_0 : decode b_Tr_has 0 = .ok (.iload_n 1, 1) := by decide +kernel
theorem d_Tr_has_1 : decode b_Tr_has 1 = .ok (.ifCond .lt 32, 3) := by decide +kernel
theorem d_Tr_has_4 : decode b_Tr_has 4 = .ok (.iload_n 1, 1) := by decide +kernel
theorem d_Tr_has_5 : decode b_Tr_has 5 = .ok (.ldc 31, 2) := by decide +kernel
theorem d_Tr_has_7 : decode b_Tr_has 7 = .ok (.if_icmp .ge 26, 3) := by decide +kernel
theorem d_Tr_has_10 : decode b_Tr_has 10 = .ok (.aload_n 0, 1) := by decide +kernel
theorem d_Tr_has_11 : decode b_Tr_has 11 = .ok (.getfield 9, 3) := by decide +kernel
theorem d_Tr_has_14 : decode b_Tr_has 14 = .ok (.iload_n 1, 1) := by decide +kernel
theorem d_Tr_has_15 : decode b_Tr_has 15 = .ok (.bipush 32, 2) := by decide +kernel
theorem d_Tr_has_17 : decode b_Tr_has 17 = .ok (.idiv, 1) := by decide +kernel
theorem d_Tr_has_18 : decode b_Tr_has 18 = .ok (.iaload, 1) := by decide +kernel
theorem d_Tr_has_19 : decode b_Tr_has 19 = .ok (.iconst 1, 1) := by decide +kernel
theorem d_Tr_has_20 : decode b_Tr_has 20 = .ok (.iload_n 1, 1) := by decide +kernel
theorem d_Tr_has_21 : decode b_Tr_has 21 = .ok (.bipush 32, 2) := by decide +kernel
theorem d_Tr_has_23 : decode b_Tr_has 23 = .ok (.irem, 1) := by decide +kernel
theorem d_Tr_has_24 : decode b_Tr_has 24 = .ok (.ishl, 1) := by decide +kernel
theorem d_Tr_has_25 : decode b_Tr_has 25 = .ok (.iand, 1) := by decide +kernel
theorem d_Tr_has_26 : decode b_Tr_has 26 = .ok (.ifCond .eq 7, 3) := by decide +kernel
theorem d_Tr_has_29 : decode b_Tr_has 29 = .ok (.iconst 1, 1) := by decide +kernel
theorem d_Tr_has_30 : decode b_Tr_has 30 = .ok (.goto 4, 3) := by decide +kernel
theorem d_Tr_has_33 : decode b_Tr_has 33 = .ok (.iconst 0, 1) := by decide +kernel
theorem d_Tr_has_34 : decode b_Tr_has 34 = .ok (.ireturn, 1) := by decide +kernel
theorem d_Tr_subjectsFor_0 : decode b_Tr_subjectsFor 0 = .ok (.iload_n 1, 1) := by decide +kernel
theorem d_Tr_subjectsFor_1 : decode b_Tr_subjectsFor 1 = .ok (.invokestatic 32, 3) := by decide +kernel
theorem d_Tr_subjectsFor_4 : decode b_Tr_subjectsFor 4 = .ok (.ifCond .eq 7, 3) := by decide +kernel
theorem d_Tr_subjectsFor_7 : decode b_Tr_subjectsFor 7 = .ok (.iconst 1, 1) := by decide +kernel
theorem d_Tr_subjectsFor_8 : decode b_Tr_subjectsFor 8 = .ok (.iload_n 1, 1) := by decide +kernel
theorem d_Tr_subjectsFor_9 : decode b_Tr_subjectsFor 9 = .ok (.ishl, 1) := by decide +kernel
theorem d_Tr_subjectsFor_10 : decode b_Tr_subjectsFor 10 = .ok (.ireturn, 1) := by decide +kernel
theorem d_Tr_subjectsFor_11 : decode b_Tr_subjectsFor 11 = .ok (.iload_n 2, 1) := by decide +kernel
theorem d_Tr_subjectsFor_12 : decode b_Tr_subjectsFor 12 = .ok (.invokestatic 32, 3) := by decide +kernel
theorem d_Tr_subjectsFor_15 : decode b_Tr_subjectsFor 15 = .ok (.ifCond .eq 12, 3) := by decide +kernel
theorem d_Tr_subjectsFor_18 : decode b_Tr_subjectsFor 18 = .ok (.aload_n 0, 1) := by decide +kernel
theorem d_Tr_subjectsFor_19 : decode b_Tr_subjectsFor 19 = .ok (.getfield 15, 3) := by decide +kernel
theorem d_Tr_subjectsFor_22 : decode b_Tr_subjectsFor 22 = .ok (.iload_n 2, 1) := by decide +kernel
theorem d_Tr_subjectsFor_23 : decode b_Tr_subjectsFor 23 = .ok (.iaload, 1) := by decide +kernel
theorem d_Tr_subjectsFor_24 : decode b_Tr_subjectsFor 24 = .ok (.goto 7, 3) := by decide +kernel
theorem d_Tr_subjectsFor_27 : decode b_Tr_subjectsFor 27 = .ok (.aload_n 0, 1) := by decide +kernel
theorem d_Tr_subjectsFor_28 : decode b_Tr_subjectsFor 28 = .ok (.getfield 21, 3) := by decide +kernel
theorem d_Tr_subjectsFor_31 : decode b_Tr_subjectsFor 31 = .ok (.ireturn, 1) := by decide +kernel
theorem d_Tr_predicatesFor_0 : decode b_Tr_predicatesFor 0 = .ok (.iload_n 2, 1) := by decide +kernel
theorem d_Tr_predicatesFor_1 : decode b_Tr_predicatesFor 1 = .ok (.invokestatic 32, 3) := by decide +kernel
theorem d_Tr_predicatesFor_4 : decode b_Tr_predicatesFor 4 = .ok (.ifCond .eq 7, 3) := by decide +kernel
theorem d_Tr_predicatesFor_7 : decode b_Tr_predicatesFor 7 = .ok (.iconst 1, 1) := by decide +kernel
theorem d_Tr_predicatesFor_8 : decode b_Tr_predicatesFor 8 = .ok (.iload_n 2, 1) := by decide +kernel
theorem d_Tr_predicatesFor_9 : decode b_Tr_predicatesFor 9 = .ok (.ishl, 1) := by decide +kernel
theorem d_Tr_predicatesFor_10 : decode b_Tr_predicatesFor 10 = .ok (.ireturn, 1) := by decide +kernel
theorem d_Tr_predicatesFor_11 : decode b_Tr_predicatesFor 11 = .ok (.iload_n 1, 1) := by decide +kernel
theorem d_Tr_predicatesFor_12 : decode b_Tr_predicatesFor 12 = .ok (.invokestatic 32, 3) := by decide +kernel
theorem d_Tr_predicatesFor_15 : decode b_Tr_predicatesFor 15 = .ok (.ifCond .eq 12, 3) := by decide +kernel
theorem d_Tr_predicatesFor_18 : decode b_Tr_predicatesFor 18 = .ok (.aload_n 0, 1) := by decide +kernel
theorem d_Tr_predicatesFor_19 : decode b_Tr_predicatesFor 19 = .ok (.getfield 18, 3) := by decide +kernel
theorem d_Tr_predicatesFor_22 : decode b_Tr_predicatesFor 22 = .ok (.iload_n 1, 1) := by decide +kernel
theorem d_Tr_predicatesFor_23 : decode b_Tr_predicatesFor 23 = .ok (.iaload, 1) := by decide +kernel
theorem d_Tr_predicatesFor_24 : decode b_Tr_predicatesFor 24 = .ok (.goto 4, 3) := by decide +kernel
theorem d_Tr_predicatesFor_27 : decode b_Tr_predicatesFor 27 = .ok (.iconst 0, 1) := by decide +kernel
theorem d_Tr_predicatesFor_28 : decode b_Tr_predicatesFor 28 = .ok (.ireturn, 1) := by decide +kernel
theorem d_Tr_objectsFor_0 : decode b_Tr_objectsFor 0 = .ok (.iload_n 1, 1) := by decide +kernel
theorem d_Tr_objectsFor_1 : decode b_Tr_objectsFor 1 = .ok (.invokestatic 32, 3) := by decide +kernel
theorem d_Tr_objectsFor_4 : decode b_Tr_objectsFor 4 = .ok (.ifCond .eq 10, 3) := by decide +kernel
theorem d_Tr_objectsFor_7 : decode b_Tr_objectsFor 7 = .ok (.iload_n 2, 1) := by decide +kernel
theorem d_Tr_objectsFor_8 : decode b_Tr_objectsFor 8 = .ok (.invokestatic 32, 3) := by decide +kernel
theorem d_Tr_objectsFor_11 : decode b_Tr_objectsFor 11 = .ok (.ifCond .ne 5, 3) := by decide +kernel
theorem d_Tr_objectsFor_14 : decode b_Tr_objectsFor 14 = .ok (.iconst 0, 1) := by decide +kernel
theorem d_Tr_objectsFor_15 : decode b_Tr_objectsFor 15 = .ok (.ireturn, 1) := by decide +kernel
theorem d_Tr_objectsFor_16 : decode b_Tr_objectsFor 16 = .ok (.aload_n 0, 1) := by decide +kernel
theorem d_Tr_objectsFor_17 : decode b_Tr_objectsFor 17 = .ok (.getfield 9, 3) := by decide +kernel
theorem d_Tr_objectsFor_20 : decode b_Tr_objectsFor 20 = .ok (.iload_n 1, 1) := by decide +kernel
theorem d_Tr_objectsFor_21 : decode b_Tr_objectsFor 21 = .ok (.bipush 32, 2) := by decide +kernel
theorem d_Tr_objectsFor_23 : decode b_Tr_objectsFor 23 = .ok (.imul, 1) := by decide +kernel
theorem d_Tr_objectsFor_24 : decode b_Tr_objectsFor 24 = .ok (.iload_n 2, 1) := by decide +kernel
theorem d_Tr_objectsFor_25 : decode b_Tr_objectsFor 25 = .ok (.iadd, 1) := by decide +kernel
theorem d_Tr_objectsFor_26 : decode b_Tr_objectsFor 26 = .ok (.iaload, 1) := by decide +kernel
theorem d_Tr_objectsFor_27 : decode b_Tr_objectsFor 27 = .ok (.istore 4, 2) := by decide +kernel
theorem d_Tr_objectsFor_29 : decode b_Tr_objectsFor 29 = .ok (.iload_n 3, 1) := by decide +kernel
theorem d_Tr_objectsFor_30 : decode b_Tr_objectsFor 30 = .ok (.invokestatic 32, 3) := by decide +kernel
theorem d_Tr_objectsFor_33 : decode b_Tr_objectsFor 33 = .ok (.ifCond .eq 12, 3) := by decide +kernel
theorem d_Tr_objectsFor_36 : decode b_Tr_objectsFor 36 = .ok (.iload 4, 2) := by decide +kernel
theorem d_Tr_objectsFor_38 : decode b_Tr_objectsFor 38 = .ok (.iconst 1, 1) := by decide +kernel
theorem d_Tr_objectsFor_39 : decode b_Tr_objectsFor 39 = .ok (.iload_n 3, 1) := by decide +kernel
theorem d_Tr_objectsFor_40 : decode b_Tr_objectsFor 40 = .ok (.ishl, 1) := by decide +kernel
theorem d_Tr_objectsFor_41 : decode b_Tr_objectsFor 41 = .ok (.iand, 1) := by decide +kernel
theorem d_Tr_objectsFor_42 : decode b_Tr_objectsFor 42 = .ok (.goto 5, 3) := by decide +kernel
theorem d_Tr_objectsFor_45 : decode b_Tr_objectsFor 45 = .ok (.iload 4, 2) := by decide +kernel
theorem d_Tr_objectsFor_47 : decode b_Tr_objectsFor 47 = .ok (.ireturn, 1) := by decide +kernel
theorem d_Tr_codeAt_0 : decode b_Tr_codeAt 0 = .ok (.iload_n 1, 1) := by decide +kernel
theorem d_Tr_codeAt_1 : decode b_Tr_codeAt 1 = .ok (.istore_n 2, 1) := by decide +kernel
theorem d_Tr_codeAt_2 : decode b_Tr_codeAt 2 = .ok (.iconst 0, 1) := by decide +kernel
theorem d_Tr_codeAt_3 : decode b_Tr_codeAt 3 = .ok (.istore_n 3, 1) := by decide +kernel
theorem d_Tr_codeAt_4 : decode b_Tr_codeAt 4 = .ok (.iload_n 3, 1) := by decide +kernel
theorem d_Tr_codeAt_5 : decode b_Tr_codeAt 5 = .ok (.sipush 1024, 3) := by decide +kernel
theorem d_Tr_codeAt_8 : decode b_Tr_codeAt 8 = .ok (.if_icmp .ge 47, 3) := by decide +kernel
theorem d_Tr_codeAt_11 : decode b_Tr_codeAt 11 = .ok (.aload_n 0, 1) := by decide +kernel
theorem d_Tr_codeAt_12 : decode b_Tr_codeAt 12 = .ok (.getfield 9, 3) := by decide +kernel
theorem d_Tr_codeAt_15 : decode b_Tr_codeAt 15 = .ok (.iload_n 3, 1) := by decide +kernel
theorem d_Tr_codeAt_16 : decode b_Tr_codeAt 16 = .ok (.iaload, 1) := by decide +kernel
theorem d_Tr_codeAt_17 : decode b_Tr_codeAt 17 = .ok (.invokestatic 36, 3) := by decide +kernel
theorem d_Tr_codeAt_20 : decode b_Tr_codeAt 20 = .ok (.istore 4, 2) := by decide +kernel
theorem d_Tr_codeAt_22 : decode b_Tr_codeAt 22 = .ok (.iload_n 2, 1) := by decide +kernel
theorem d_Tr_codeAt_23 : decode b_Tr_codeAt 23 = .ok (.iload 4, 2) := by decide +kernel
theorem d_Tr_codeAt_25 : decode b_Tr_codeAt 25 = .ok (.if_icmp .ge 19, 3) := by decide +kernel
theorem d_Tr_codeAt_28 : decode b_Tr_codeAt 28 = .ok (.iload_n 3, 1) := by decide +kernel
theorem d_Tr_codeAt_29 : decode b_Tr_codeAt 29 = .ok (.bipush 32, 2) := by decide +kernel
theorem d_Tr_codeAt_31 : decode b_Tr_codeAt 31 = .ok (.imul, 1) := by decide +kernel
theorem d_Tr_codeAt_32 : decode b_Tr_codeAt 32 = .ok (.aload_n 0, 1) := by decide +kernel
theorem d_Tr_codeAt_33 : decode b_Tr_codeAt 33 = .ok (.getfield 9, 3) := by decide +kernel
theorem d_Tr_codeAt_36 : decode b_Tr_codeAt 36 = .ok (.iload_n 3, 1) := by decide +kernel
theorem d_Tr_codeAt_37 : decode b_Tr_codeAt 37 = .ok (.iaload, 1) := by decide +kernel
theorem d_Tr_codeAt_38 : decode b_Tr_codeAt 38 = .ok (.iload_n 2, 1) := by decide +kernel
theorem d_Tr_codeAt_39 : decode b_Tr_codeAt 39 = .ok (.invokestatic 42, 3) := by decide +kernel
theorem d_Tr_codeAt_42 : decode b_Tr_codeAt 42 = .ok (.iadd, 1) := by decide +kernel
theorem d_Tr_codeAt_43 : decode b_Tr_codeAt 43 = .ok (.ireturn, 1) := by decide +kernel
theorem d_Tr_codeAt_44 : decode b_Tr_codeAt 44 = .ok (.iload_n 2, 1) := by decide +kernel
theorem d_Tr_codeAt_45 : decode b_Tr_codeAt 45 = .ok (.iload 4, 2) := by decide +kernel
theorem d_Tr_codeAt_47 : decode b_Tr_codeAt 47 = .ok (.isub, 1) := by decide +kernel
theorem d_Tr_codeAt_48 : decode b_Tr_codeAt 48 = .ok (.istore_n 2, 1) := by decide +kernel
theorem d_Tr_codeAt_49 : decode b_Tr_codeAt 49 = .ok (.iinc 3 1, 3) := by decide +kernel
theorem d_Tr_codeAt_52 : decode b_Tr_codeAt 52 = .ok (.goto (-48), 3) := by decide +kernel
theorem d_Tr_codeAt_55 : decode b_Tr_codeAt 55 = .ok (.bipush (-2), 2) := by decide +kernel
theorem d_Tr_codeAt_57 : decode b_Tr_codeAt 57 = .ok (.ireturn, 1) := by decide +kernel
